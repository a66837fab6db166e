import java.util.Arrays;

/** The watch on the wire: roads, talks, findings, oddness, traps, doors, keepers and sheets. */
public final class WireWatch {
    public static final int UNKNOWN = -1, OUTSIDE = -2, STATE = -3, FULL = -4, NONE = -9;
    public static final long LOST = Long.MIN_VALUE;

    private static final int MACHINES = 10;
    private static final int MACHINE_SETS = 1 << MACHINES;
    private static final int LAST_TICK = 999;

    private static final int MOST_DOORS = 8;
    private static final int MOST_TALKS = 8;
    private static final int MOST_ROWS = 8;
    private static final int MOST_FINDINGS = 40;
    private static final int MOST_WORKS = 8;
    private static final int MOST_LOOKS = 60;
    private static final int MOST_THINGS = 200;
    private static final int MOST_STATES = 16;

    private static final int SEALED = 1, CARRIED = 2;
    private static final int LAST_START = 59;
    private static final int LONGEST_PIECE = 20;
    private static final int PLACES = 79;
    private static final int LAST_BYTE = 127;

    private static final int ANY = -1;
    private static final int LONGEST_ROW = 6;
    private static final int CLEARED = 1, CONFIRMED = 2;
    private static final int TEXT_FAULT = -100;

    private static final int HOURS = 14;
    private static final int HOUR_SETS = 1 << HOURS;
    private static final int MOST_COUNTS = 999;
    private static final int GROUPS = 4;

    private static final int SIGNS = 4;
    private static final int LONGEST_GROWN = 10;
    private static final int LONGEST_ASKED = 20;
    private static final int LAST_ANSWER = 99;

    private static final int KEEPERS = 4;

    private static final int SHEETS = 4;
    private static final int LANES = 3;
    private static final int SHEET_CELLS = 60;

    private static final int NULL_FAULT = 1, CAST_FAULT = 2, INDEX_FAULT = 3, SIZE_FAULT = 4;
    private static final int FAULT_ANSWER = -10;

    private final Net net;
    private final Works works;
    private final Talk[] talks;
    private final Row[] patterns;
    private final Findings findings;
    private final ChainText text;
    private final Hours hoursKept;
    private final Sketch sketch;
    private final Trap trap;
    private final Keepers keepers;
    private final Sheet[] sheets;
    private int talkCount;
    private int rowCount;
    private int traceLeft;
    private int latestFault;

    public WireWatch() {
        net = new Net();
        works = new Works();
        talks = new Talk[MOST_TALKS];
        patterns = new Row[MOST_ROWS];
        findings = new Findings();
        text = new ChainText();
        hoursKept = new Hours();
        sketch = new Sketch();
        trap = new Trap();
        keepers = new Keepers();
        sheets = new Sheet[SHEETS];
        for (int k = 0; k < SHEETS; k++) {
            sheets[k] = new Sheet();
        }
    }

    // ---- what numbers may be ----

    private static boolean isIn(int v, int low, int high) {
        return v >= low && v <= high;
    }

    private static boolean isMachine(int m) {
        return isIn(m, 0, MACHINES - 1);
    }

    private static boolean areMachines(int a, int b) {
        return isMachine(a) && isMachine(b);
    }

    private static boolean isTick(int tick) {
        return isIn(tick, 0, LAST_TICK);
    }

    private static boolean isLane(int lane) {
        return isIn(lane, 0, LANES - 1);
    }

    private static boolean isHourSet(int hours) {
        return isIn(hours, 1, HOUR_SETS - 1);
    }

    private static boolean areApart(int machines, int others) {
        return isIn(machines, 1, MACHINE_SETS - 1) && isIn(others, 1, MACHINE_SETS - 1)
            && (machines & others) == 0;
    }

    private boolean areDoors(int doors) {
        return isIn(doors, 0, (1 << net.doors) - 1);
    }

    private Talk talkAt(int t) {
        return isIn(t, 0, talkCount - 1) ? talks[t] : null;
    }

    private Row rowAt(int r) {
        return isIn(r, 0, rowCount - 1) ? patterns[r] : null;
    }

    private Sheet sheetAt(int k) {
        return isIn(k, 0, SHEETS - 1) ? sheets[k] : null;
    }

    private static long greatestShared(long a, long b) {
        long great = a;
        long small = b;
        for (int round = 0; round < 100 && small != 0; round++) {
            long rest = great % small;
            great = small;
            small = rest;
        }
        return great;
    }

    /** The upper (which 0) or lower number (1) of a share in least terms. */
    private static long share(long upper, long lower, int which) {
        long shared = greatestShared(upper, lower);
        if (shared == 0) {
            return LOST;
        }
        return (which == 0 ? upper : lower) / shared;
    }

    // ---- 1 roads, talks ----

    public int road(int a, int b, boolean is) {
        if (!areMachines(a, b)) {
            return UNKNOWN;
        }
        if (a == b) {
            return OUTSIDE;
        }
        if (net.hasRoad(a, b) == is) {
            return 0;
        }
        if (is) {
            net.layRoad(a, b);
        } else {
            net.takeRoad(a, b);
        }
        return 1;
    }

    public int post(int a, int b, boolean is) {
        if (!areMachines(a, b) || !net.hasRoad(a, b)) {
            return UNKNOWN;
        }
        if (net.hasPost(a, b) == is) {
            return 0;
        }
        net.turnPost(a, b);
        return 1;
    }

    public int door(int a, int b) {
        if (!areMachines(a, b) || !net.hasRoad(a, b)) {
            return UNKNOWN;
        }
        return net.doorOn(a, b);
    }

    public int shut(int d, boolean is) {
        if (!isIn(d, 0, net.doors - 1)) {
            return UNKNOWN;
        }
        if (!net.doorStands(d)) {
            return STATE;
        }
        if (net.isShut(d) == is) {
            return 0;
        }
        net.turnDoor(d);
        return 1;
    }

    public int way(int a, int b, int k) {
        if (!areMachines(a, b) || !isIn(k, -1, MACHINES - 1)) {
            return UNKNOWN;
        }
        if (!net.findWay(a, b)) {
            return NONE;
        }
        if (k < 0) {
            return net.wayRoads;
        }
        return k <= net.wayRoads ? net.onWay[k] : NONE;
    }

    public int blind(int a, int b) {
        if (!areMachines(a, b)) {
            return UNKNOWN;
        }
        if (a == b) {
            return OUTSIDE;
        }
        net.openRoads(0);
        net.leavePosts();
        return (net.reach(1 << a) >> b & 1) != 0 ? 1 : 0;
    }

    public int talk(int kind, int a, int b) {
        if (!areMachines(a, b)) {
            return UNKNOWN;
        }
        if (!isIn(kind, 0, CARRIED) || a == b) {
            return OUTSIDE;
        }
        if (talkCount >= MOST_TALKS) {
            return FULL;
        }
        talks[talkCount] = new Talk(talkCount, kind, a, b);
        talkCount++;
        return talkCount - 1;
    }

    public int piece(int t, int place, int tick, int sheet, int lane, int i, int n) {
        latestFault = 0;
        Talk talk = talkAt(t);
        Sheet cells = sheetAt(sheet);
        if (talk == null || cells == null) {
            return UNKNOWN;
        }
        if (!isIn(place, 0, LAST_START) || !isTick(tick)) {
            return OUTSIDE;
        }
        int against = againstTaking(cells, lane, i, n);
        if (against != 0) {
            return against;
        }
        if (!isIn(n, 1, LONGEST_PIECE) || !cells.areAllIn(i, n, 0, LAST_BYTE)) {
            return OUTSIDE;
        }
        if (!net.findWay(talk.from, talk.to)) {
            return STATE;
        }
        if (!net.wayHasPost()) {
            talk.unseen++;
            return 0;
        }
        talk.see(place, tick, cells, i, n);
        return 1;
    }

    public int about(int t, int what) {
        Talk talk = talkAt(t);
        if (talk == null) {
            return UNKNOWN;
        }
        switch (what) {
            case 0: return talk.kind;
            case 1: return talk.from;
            case 2: return talk.to;
            case 3: return talk.joined();
            case 4: return talk.length();
            case 5: return talk.twofold();
            case 6: return talk.more;
            case 7: return talk.unseen;
            case 8: return talk.latestTick;
            default: return OUTSIDE;
        }
    }

    public int at(int t, int reading, int place) {
        Talk talk = talkAt(t);
        if (talk == null || !isIn(place, 0, PLACES - 1)) {
            return UNKNOWN;
        }
        if (!isIn(reading, 0, 1)) {
            return OUTSIDE;
        }
        return talk.isSealed() ? STATE : talk.byteAt(reading, place);
    }

    // ---- 2 rows, findings ----

    public int row(int sheet, int lane, int i, int n) {
        latestFault = 0;
        Sheet cells = sheetAt(sheet);
        int against = againstTaking(cells, lane, i, n);
        if (cells == null || against != 0) {
            return against;
        }
        if (!isIn(n, 1, LONGEST_ROW) || !cells.areAllIn(i, n, ANY, LAST_BYTE)) {
            return OUTSIDE;
        }
        if (rowCount >= MOST_ROWS) {
            return FULL;
        }
        patterns[rowCount] = new Row(cells, i, n);
        rowCount++;
        return rowCount - 1;
    }

    public int fits(int r, int t, int reading, int what) {
        Row pattern = rowAt(r);
        Talk talk = talkAt(t);
        if (pattern == null || talk == null) {
            return UNKNOWN;
        }
        if (!isIn(reading, 0, 1) || !isIn(what, 0, 1)) {
            return OUTSIDE;
        }
        if (talk.isSealed()) {
            return STATE;
        }
        return what == 0 ? pattern.placesIn(talk, reading) : pattern.firstIn(talk, reading);
    }

    public int scan(int tick) {
        if (!isTick(tick)) {
            return OUTSIDE;
        }
        int before = findings.found;
        for (int t = 0; t < talkCount; t++) {
            for (int r = 0; r < rowCount; r++) {
                scanOne(r, t, tick);
            }
        }
        return findings.found - before;
    }

    private void scanOne(int r, int t, int tick) {
        Row pattern = rowAt(r);
        Talk talk = talkAt(t);
        if (pattern == null || talk == null || talk.isSealed() || findings.isThere(r, t)) {
            return;
        }
        if (pattern.firstIn(talk, 0) != NONE || pattern.firstIn(talk, 1) != NONE) {
            findings.keep(r, talk, tick);
        }
    }

    public int finding(int f, int what) {
        if (!isIn(f, 0, findings.found - 1)) {
            return UNKNOWN;
        }
        switch (what) {
            case 0: return findings.rowOf[f];
            case 1: return findings.talkOf[f];
            case 2: return findings.tickOf[f];
            case 3: return findings.verdict[f];
            default: return OUTSIDE;
        }
    }

    public int clear(int f, int is) {
        if (!isIn(f, 0, findings.found - 1)) {
            return UNKNOWN;
        }
        if (!isIn(is, 0, CONFIRMED)) {
            return OUTSIDE;
        }
        int was = findings.verdict[f];
        findings.verdict[f] = is;
        return was;
    }

    public long nothing(int r, int which) {
        if (rowAt(r) == null || !isIn(which, 0, 1)) {
            return LOST;
        }
        int cleared = findings.countOf(r, CLEARED);
        int judged = cleared + findings.countOf(r, CONFIRMED);
        return judged == 0 ? LOST : share(cleared, judged, which);
    }

    public int chain(int sheet, int lane, int i, int n) {
        latestFault = 0;
        Sheet cells = sheetAt(sheet);
        int against = againstTaking(cells, lane, i, n);
        if (cells == null || against != 0) {
            return against;
        }
        int firstFault = text.read(cells, i, n, rowCount);
        if (firstFault != NONE) {
            return TEXT_FAULT - firstFault;
        }
        return findings.machinesWith(text);
    }

    // ---- 3 oddness ----

    public int count(int m, int hour, int n) {
        if (!isMachine(m)) {
            return UNKNOWN;
        }
        if (!isIn(hour, 0, HOURS - 1) || !isIn(n, 0, MOST_COUNTS)) {
            return OUTSIDE;
        }
        return hoursKept.change(m, hour, n);
    }

    public long odds(int m, int hours, int which) {
        if (!isMachine(m) || !isHourSet(hours) || !isIn(which, 0, 1)) {
            return LOST;
        }
        return share(hoursKept.setsAsGreat(m, hours), hoursKept.setsAsLarge(hours), which);
    }

    public int group(int m, int g) {
        if (!isMachine(m)) {
            return UNKNOWN;
        }
        if (!isIn(g, 0, GROUPS - 1)) {
            return OUTSIDE;
        }
        int was = hoursKept.groupOf[m];
        hoursKept.groupOf[m] = g;
        return was;
    }

    public int likes(int m, int hours) {
        if (!isMachine(m)) {
            return UNKNOWN;
        }
        return isHourSet(hours) ? hoursKept.likesOf(m, hours) : OUTSIDE;
    }

    public int put(int x, int n) {
        if (!Sketch.isThing(x) || !isIn(n, 1, Sketch.MOST_TIMES)) {
            return OUTSIDE;
        }
        return sketch.take(x, n) ? sketch.toldOf(x) : FULL;
    }

    public int told(int x, int what) {
        if (!Sketch.isThing(x) || !isIn(what, 0, 1)) {
            return OUTSIDE;
        }
        return what == 0 ? sketch.toldOf(x) : sketch.trulyOf(x);
    }

    public int miss() {
        return sketch.missed();
    }

    // ---- 4 traps ----

    private static boolean isSign(int sign) {
        return isIn(sign, 0, SIGNS - 1);
    }

    public int bar(int first, int second, boolean is) {
        if (!isSign(first) || !isSign(second)) {
            return OUTSIDE;
        }
        if (trap.isBarred(first, second) == is) {
            return 0;
        }
        trap.turnBar(first, second);
        return 1;
    }

    public int grow(int sheet, int lane, int i, int n) {
        latestFault = 0;
        Sheet cells = sheetAt(sheet);
        int against = againstTaking(cells, lane, i, n);
        if (cells == null || against != 0) {
            return against;
        }
        if (!isIn(n, 1, LONGEST_GROWN) || !cells.areAllIn(i, n, 0, SIGNS - 1)) {
            return OUTSIDE;
        }
        return trap.growBy(cells, i, n);
    }

    public int gone(int sheet, int lane, int i, int n) {
        latestFault = 0;
        Sheet cells = sheetAt(sheet);
        int against = againstTaking(cells, lane, i, n);
        if (cells == null || against != 0) {
            return against;
        }
        if (!isIn(n, 0, LONGEST_GROWN) || !cells.areAllIn(i, n, 0, SIGNS - 1)) {
            return OUTSIDE;
        }
        return trap.goneAlong(cells, i, n);
    }

    public int answer(int state, int a) {
        if (!isIn(state, 0, trap.states - 1)) {
            return UNKNOWN;
        }
        if (!isIn(a, 0, LAST_ANSWER)) {
            return OUTSIDE;
        }
        int was = trap.answers[state];
        trap.answers[state] = a;
        return was;
    }

    public int next(int state, int sign) {
        if (!isIn(state, 0, trap.states - 1)) {
            return UNKNOWN;
        }
        if (!isSign(sign)) {
            return OUTSIDE;
        }
        int led = trap.leadsTo(state, sign);
        return led == Trap.NOWHERE ? NONE : led;
    }

    public int rows(int n) {
        return isIn(n, 0, LONGEST_ASKED) ? trap.rowsOf(n) : OUTSIDE;
    }

    // ---- 5 doors, keepers ----

    public int work(int a, int b, int weight) {
        if (!areMachines(a, b)) {
            return UNKNOWN;
        }
        if (a == b || !isIn(weight, 1, Works.MOST_WEIGHT)) {
            return OUTSIDE;
        }
        return works.keep(a, b, weight);
    }

    public int still(int doors, int what) {
        if (!areDoors(doors) || !isIn(what, 0, 1)) {
            return OUTSIDE;
        }
        net.openRoads(doors);
        int stopped = works.stoppedIn(net);
        return what == 0 ? stopped : works.weightOf(stopped);
    }

    public int parted(int machines, int others, int doors) {
        if (!areApart(machines, others) || !areDoors(doors)) {
            return OUTSIDE;
        }
        net.openRoads(doors);
        return net.parts(machines, others) ? 1 : 0;
    }

    public int least(int machines, int others, int what) {
        if (!areApart(machines, others) || !isIn(what, 0, 1)) {
            return OUTSIDE;
        }
        int best = NONE;
        int bestHarm = NONE;
        for (int set = 0; set < 1 << net.doors; set++) {
            if ((set & net.shutDoors) != 0) {
                continue;
            }
            net.openRoads(set);
            if (!net.parts(machines, others)) {
                continue;
            }
            int harm = works.weightOf(works.stoppedIn(net));
            // Sets come by rising number, so a later one must be truly better.
            if (best == NONE || harm < bestHarm
                || harm == bestHarm && Integer.bitCount(set) < Integer.bitCount(best)) {
                best = set;
                bestHarm = harm;
            }
        }
        return what == 0 ? best : bestHarm;
    }

    public int may(int keeper, int m, int till) {
        if (!isIn(keeper, 0, KEEPERS - 1) || !isMachine(m)) {
            return UNKNOWN;
        }
        if (till != -1 && !isTick(till)) {
            return OUTSIDE;
        }
        return keepers.allow(keeper, m, till == -1 ? NONE : till);
    }

    public int look(int keeper, int t, int tick) {
        Talk talk = talkAt(t);
        if (!isIn(keeper, 0, KEEPERS - 1) || talk == null) {
            return UNKNOWN;
        }
        if (!isTick(tick)) {
            return OUTSIDE;
        }
        if (talk.isSealed()) {
            return STATE;
        }
        return keepers.keepLook(keeper, talk.from, tick);
    }

    public int looks(int keeper, int what) {
        if (!isIn(keeper, 0, KEEPERS - 1)) {
            return UNKNOWN;
        }
        if (!isIn(what, 0, 1)) {
            return OUTSIDE;
        }
        return what == 0 ? keepers.kept[keeper] : keepers.keptBarred[keeper];
    }

    // ---- 6 sheets, parts ----

    private int faulted(int which) {
        latestFault = which;
        return FAULT_ANSWER - which;
    }

    private long lostBy(int which) {
        latestFault = which;
        return LOST;
    }

    /** What stands against taking n cells from i on as a row of a lane; 0: nothing does. */
    private int againstTaking(Sheet cells, int lane, int i, int n) {
        if (cells == null) {
            return UNKNOWN;
        }
        if (!isLane(lane)) {
            return OUTSIDE;
        }
        if (cells.isOfOther(lane)) {
            return faulted(CAST_FAULT);
        }
        if (!cells.has) {
            return faulted(NULL_FAULT);
        }
        if (n < 0) {
            return faulted(SIZE_FAULT);
        }
        return cells.spans(i, n) ? 0 : faulted(INDEX_FAULT);
    }

    public int sheet(int k, int lane, int n) {
        latestFault = 0;
        Sheet cells = sheetAt(k);
        if (cells == null) {
            return UNKNOWN;
        }
        if (!isLane(lane) || n > SHEET_CELLS) {
            return OUTSIDE;
        }
        if (n < 0) {
            return faulted(SIZE_FAULT);
        }
        cells.begin(lane, n);
        return 1;
    }

    public int lose(int k) {
        Sheet cells = sheetAt(k);
        if (cells == null) {
            return UNKNOWN;
        }
        if (!cells.has) {
            return 0;
        }
        cells.has = false;
        return 1;
    }

    public int set(int k, int i, int v) {
        latestFault = 0;
        Sheet cells = sheetAt(k);
        if (cells == null) {
            return UNKNOWN;
        }
        if (!cells.has) {
            return faulted(NULL_FAULT);
        }
        if (!cells.spans(i, 1)) {
            return faulted(INDEX_FAULT);
        }
        cells.values[i] = cells.cut(v);
        return 1;
    }

    public long cell(int k, int i, int lane) {
        latestFault = 0;
        Sheet cells = sheetAt(k);
        if (cells == null || !isLane(lane)) {
            return LOST;
        }
        if (cells.isOfOther(lane)) {
            return lostBy(CAST_FAULT);
        }
        if (!cells.has) {
            return lostBy(NULL_FAULT);
        }
        if (!cells.spans(i, 1)) {
            return lostBy(INDEX_FAULT);
        }
        return cells.values[i];
    }

    public int copy(int k, int i, int other, int j, int n) {
        latestFault = 0;
        Sheet cells = sheetAt(k);
        Sheet others = sheetAt(other);
        if (cells == null || others == null) {
            return UNKNOWN;
        }
        if (!cells.has || !others.has) {
            return faulted(NULL_FAULT);
        }
        if (others.isOfOther(cells.lane)) {
            return faulted(CAST_FAULT);
        }
        if (!cells.spans(i, n) || !others.spans(j, n)) {
            return faulted(INDEX_FAULT);
        }
        System.arraycopy(cells.values, i, others.values, j, n);
        return n;
    }

    public int tell(int t) {
        Talk talk = talkAt(t);
        if (talk == null) {
            return UNKNOWN;
        }
        if (talk.kind == CARRIED) {
            return tellingOfCarried(talk);
        }
        return talk.kind == SEALED ? tellingOfSealed(talk) : tellingOfTalk(talk);
    }

    private void leave(int body) {
        traceLeft = 31 * traceLeft + body;
    }

    private int tellingOfTalk(Talk talk) {
        leave(1);
        return talk.length();
    }

    private int tellingOfSealed(Talk talk) {
        leave(2);
        return tellingOfTalk(talk) + 1000;
    }

    private int tellingOfCarried(Talk talk) {
        leave(3);
        int bySealed = tellingOfSealed(talk);
        return bySealed + tellingOfTalk(talk);
    }

    public int call(int t) {
        Talk talk = talkAt(t);
        if (talk == null) {
            return UNKNOWN;
        }
        if (talk.kind == CARRIED) {
            leave(5);
            return 77;
        }
        leave(4);
        return talk.number;
    }

    public int as(int t, int kind) {
        latestFault = 0;
        Talk talk = talkAt(t);
        if (talk == null) {
            return UNKNOWN;
        }
        if (!isIn(kind, 0, CARRIED)) {
            return OUTSIDE;
        }
        // Each kind is also all the kinds below it.
        return talk.kind >= kind ? 1 : faulted(CAST_FAULT);
    }

    public int trace() {
        return traceLeft;
    }

    public int fault() {
        return latestFault;
    }

    public int many(int what) {
        switch (what) {
            case 0: return net.roadCount;
            case 1: return net.doors;
            case 2: return talkCount;
            case 3: return rowCount;
            case 4: return findings.found;
            case 5: return trap.states;
            case 6: return works.kept;
            case 7: return keepers.keptByAll;
            default: return OUTSIDE;
        }
    }

    /** Roads, posts and doors. A set of machines is held as bits, so a row of sets is a whole map. */
    private static final class Net {
        final int[] roadsOf = new int[MACHINES];
        final int[] postsOf = new int[MACHINES];
        final int[] doorFrom = new int[MOST_DOORS];
        final int[] doorTo = new int[MOST_DOORS];
        // Used again by every question, so that asking makes nothing new.
        final int[] open = new int[MACHINES];
        final int[] farFromEnd = new int[MACHINES];
        final int[] onWay = new int[MACHINES];
        int wayRoads;
        int roadCount;
        int doors;
        int shutDoors;

        boolean hasRoad(int a, int b) {
            return (roadsOf[a] >> b & 1) != 0;
        }

        boolean hasPost(int a, int b) {
            return (postsOf[a] >> b & 1) != 0;
        }

        void layRoad(int a, int b) {
            roadsOf[a] |= 1 << b;
            roadsOf[b] |= 1 << a;
            roadCount++;
        }

        void takeRoad(int a, int b) {
            roadsOf[a] &= ~(1 << b);
            roadsOf[b] &= ~(1 << a);
            postsOf[a] &= ~(1 << b);
            postsOf[b] &= ~(1 << a);
            roadCount--;
            int d = doorBetween(a, b);
            if (d != NONE) {
                shutDoors &= ~(1 << d);
            }
        }

        void turnPost(int a, int b) {
            postsOf[a] ^= 1 << b;
            postsOf[b] ^= 1 << a;
        }

        int doorBetween(int a, int b) {
            for (int d = 0; d < doors; d++) {
                if (doorFrom[d] == a && doorTo[d] == b || doorFrom[d] == b && doorTo[d] == a) {
                    return d;
                }
            }
            return NONE;
        }

        int doorOn(int a, int b) {
            int d = doorBetween(a, b);
            if (d != NONE) {
                return d;
            }
            if (doors >= MOST_DOORS) {
                return FULL;
            }
            doorFrom[doors] = a;
            doorTo[doors] = b;
            doors++;
            return doors - 1;
        }

        boolean doorStands(int d) {
            return hasRoad(doorFrom[d], doorTo[d]);
        }

        boolean isShut(int d) {
            return (shutDoors >> d & 1) != 0;
        }

        void turnDoor(int d) {
            shutDoors ^= 1 << d;
        }

        /** Makes the map of roads that can be gone if some doors are shut, too. */
        void openRoads(int shutToo) {
            for (int m = 0; m < MACHINES; m++) {
                open[m] = roadsOf[m];
            }
            int closed = shutDoors | shutToo;
            for (int d = 0; d < doors; d++) {
                if ((closed >> d & 1) != 0) {
                    open[doorFrom[d]] &= ~(1 << doorTo[d]);
                    open[doorTo[d]] &= ~(1 << doorFrom[d]);
                }
            }
        }

        void leavePosts() {
            for (int m = 0; m < MACHINES; m++) {
                open[m] &= ~postsOf[m];
            }
        }

        /** All machines that can be come to from a set of them (these, too) on open roads. */
        int reach(int from) {
            int seen = from;
            int fresh = from;
            for (int round = 0; round < MACHINES && fresh != 0; round++) {
                int near = 0;
                for (int m = 0; m < MACHINES; m++) {
                    if ((fresh >> m & 1) != 0) {
                        near |= open[m];
                    }
                }
                fresh = near & ~seen;
                seen |= near;
            }
            return seen;
        }

        boolean parts(int machines, int others) {
            return (reach(machines) & others) == 0;
        }

        /** Finds the way; false: there is none. */
        boolean findWay(int a, int b) {
            openRoads(0);
            measureFrom(b);
            if (farFromEnd[a] == NONE) {
                return false;
            }
            wayRoads = farFromEnd[a];
            onWay[0] = a;
            for (int k = 1; k <= wayRoads; k++) {
                onWay[k] = firstNearer(onWay[k - 1]);
            }
            return true;
        }

        private void measureFrom(int end) {
            Arrays.fill(farFromEnd, NONE);
            farFromEnd[end] = 0;
            for (int far = 0; far < MACHINES; far++) {
                for (int m = 0; m < MACHINES; m++) {
                    if (farFromEnd[m] == far) {
                        measureAround(m, far + 1);
                    }
                }
            }
        }

        private void measureAround(int m, int far) {
            for (int near = 0; near < MACHINES; near++) {
                if ((open[m] >> near & 1) != 0 && farFromEnd[near] == NONE) {
                    farFromEnd[near] = far;
                }
            }
        }

        // The least machine at every step makes the first row of all the shortest ones.
        private int firstNearer(int m) {
            for (int near = 0; near < MACHINES; near++) {
                if ((open[m] >> near & 1) != 0 && farFromEnd[near] == farFromEnd[m] - 1) {
                    return near;
                }
            }
            return m;
        }

        boolean wayHasPost() {
            for (int k = 1; k <= wayRoads; k++) {
                if (hasPost(onWay[k - 1], onWay[k])) {
                    return true;
                }
            }
            return false;
        }
    }

    private static final class Works {
        static final int MOST_WEIGHT = 99;
        final int[] workFrom = new int[MOST_WORKS];
        final int[] workTo = new int[MOST_WORKS];
        final int[] weights = new int[MOST_WORKS];
        int kept;

        int keep(int a, int b, int weight) {
            if (kept >= MOST_WORKS) {
                return FULL;
            }
            workFrom[kept] = a;
            workTo[kept] = b;
            weights[kept] = weight;
            kept++;
            return kept - 1;
        }

        /** The works that have no way on the net's open roads. */
        int stoppedIn(Net net) {
            int stopped = 0;
            for (int w = 0; w < kept; w++) {
                if (net.parts(1 << workFrom[w], 1 << workTo[w])) {
                    stopped |= 1 << w;
                }
            }
            return stopped;
        }

        int weightOf(int set) {
            int sum = 0;
            for (int w = 0; w < kept; w++) {
                if ((set >> w & 1) != 0) {
                    sum += weights[w];
                }
            }
            return sum;
        }
    }

    private static final class Talk {
        private static final int CARRIED_LESS = 4;
        final int number;
        final int kind;
        final int from;
        final int to;
        final int[] first = new int[PLACES];
        final int[] second = new int[PLACES];
        int end;
        int more;
        int unseen;
        int latestTick = NONE;

        Talk(int number, int kind, int from, int to) {
            this.number = number;
            this.kind = kind;
            this.from = from;
            this.to = to;
            Arrays.fill(first, NONE);
            Arrays.fill(second, NONE);
        }

        boolean isSealed() {
            return kind >= SEALED;
        }

        void see(int place, int tick, Sheet cells, int i, int n) {
            for (int k = 0; k < n; k++) {
                seeByte(place + k, cells.values[i + k]);
            }
            end = Math.max(end, place + n);
            latestTick = tick;
        }

        private void seeByte(int place, int value) {
            if (first[place] == NONE) {
                first[place] = value;
            } else if (value == first[place] || value == second[place]) {
                return;
            } else if (second[place] == NONE) {
                second[place] = value;
            } else {
                more++;
            }
        }

        int byteAt(int reading, int place) {
            return reading == 1 && second[place] != NONE ? second[place] : first[place];
        }

        int joined() {
            int places = 0;
            while (places < PLACES && first[places] != NONE) {
                places++;
            }
            return places;
        }

        int length() {
            return kind == CARRIED ? Math.max(end - CARRIED_LESS, 0) : end;
        }

        int twofold() {
            int places = 0;
            for (int place = 0; place < PLACES; place++) {
                if (second[place] != NONE) {
                    places++;
                }
            }
            return places;
        }
    }

    private static final class Row {
        final int[] wanted = new int[LONGEST_ROW];
        final int size;

        Row(Sheet cells, int i, int n) {
            size = n;
            System.arraycopy(cells.values, i, wanted, 0, n);
        }

        private boolean isAt(Talk talk, int reading, int place) {
            for (int k = 0; k < size; k++) {
                if (wanted[k] != ANY && wanted[k] != talk.byteAt(reading, place + k)) {
                    return false;
                }
            }
            return true;
        }

        int placesIn(Talk talk, int reading) {
            int places = 0;
            int last = talk.joined() - size;
            for (int place = 0; place <= last; place++) {
                if (isAt(talk, reading, place)) {
                    places++;
                }
            }
            return places;
        }

        int firstIn(Talk talk, int reading) {
            int last = talk.joined() - size;
            for (int place = 0; place <= last; place++) {
                if (isAt(talk, reading, place)) {
                    return place;
                }
            }
            return NONE;
        }
    }

    private static final class Findings {
        final int[] rowOf = new int[MOST_FINDINGS];
        final int[] talkOf = new int[MOST_FINDINGS];
        final int[] machineOf = new int[MOST_FINDINGS];
        final int[] tickOf = new int[MOST_FINDINGS];
        final int[] verdict = new int[MOST_FINDINGS];
        int found;

        boolean isThere(int r, int t) {
            for (int f = 0; f < found; f++) {
                if (rowOf[f] == r && talkOf[f] == t) {
                    return true;
                }
            }
            return false;
        }

        void keep(int r, Talk talk, int tick) {
            if (found >= MOST_FINDINGS) {
                return;
            }
            rowOf[found] = r;
            talkOf[found] = talk.number;
            machineOf[found] = talk.from;
            tickOf[found] = tick;
            found++;
        }

        int countOf(int r, int is) {
            int sum = 0;
            for (int f = 0; f < found; f++) {
                if (rowOf[f] == r && verdict[f] == is) {
                    sum++;
                }
            }
            return sum;
        }

        int machinesWith(ChainText text) {
            int machines = 0;
            for (int f = 0; f < found; f++) {
                if (rowOf[f] == text.links[0] && verdict[f] != CLEARED && isChainFrom(f, text)) {
                    machines |= 1 << machineOf[f];
                }
            }
            return machines;
        }

        // The earliest fitting finding for each link is enough: any chain from the same start
        // stays one if a link's finding gives way to an earlier one that is still free.
        private boolean isChainFrom(int start, ChainText text) {
            long used = 1L << start;
            int tick = tickOf[start];
            for (int k = 1; k < text.size; k++) {
                int f = earliest(text.links[k], machineOf[start], tick, used);
                if (f == NONE) {
                    return false;
                }
                used |= 1L << f;
                tick = tickOf[f];
            }
            return tick - tickOf[start] <= text.span;
        }

        private int earliest(int r, int machine, int fromTick, long used) {
            int best = NONE;
            for (int f = 0; f < found; f++) {
                boolean free = (used >> f & 1L) == 0 && verdict[f] != CLEARED;
                boolean suits = rowOf[f] == r && machineOf[f] == machine && tickOf[f] >= fromTick;
                if (free && suits && (best == NONE || tickOf[f] < tickOf[best])) {
                    best = f;
                }
            }
            return best;
        }
    }

    /** The latest text of a chain that was read; kept to be used again by the next one. */
    private static final class ChainText {
        private static final int MOST_LINKS = 5;
        private static final int MOST_DIGITS = 3;
        private static final int ZERO = 48, NINE = 57, COMMA = 44, SPAN_SIGN = 64;
        final int[] links = new int[MOST_LINKS];
        int size;
        int span;

        /** Reads a text: its first fault, or NONE. */
        int read(Sheet cells, int i, int n, int rowCount) {
            size = 0;
            span = 0;
            boolean wantsLink = true;
            for (int k = 0; k < n; k++) {
                int code = cells.values[i + k];
                if (wantsLink) {
                    if (code < ZERO || code >= ZERO + rowCount || size >= MOST_LINKS) {
                        return k;
                    }
                    links[size] = code - ZERO;
                    size++;
                    wantsLink = false;
                } else if (code == COMMA && size < MOST_LINKS) {
                    wantsLink = true;
                } else if (code == SPAN_SIGN) {
                    return readSpan(cells, i, n, k + 1);
                } else {
                    return k;
                }
            }
            return n;
        }

        private int readSpan(Sheet cells, int i, int n, int from) {
            for (int k = from; k < n; k++) {
                int code = cells.values[i + k];
                if (code < ZERO || code > NINE || k - from >= MOST_DIGITS) {
                    return k;
                }
                span = span * 10 + code - ZERO;
            }
            return from < n ? NONE : n;
        }
    }

    private static final class Hours {
        private static final int[] SETS_BY_SIZE = {
            1, 14, 91, 364, 1001, 2002, 3003, 3432, 3003, 2002, 1001, 364, 91, 14, 1
        };
        final int[] counts = new int[MACHINES * HOURS];
        final int[] groupOf = new int[MACHINES];

        int change(int m, int hour, int n) {
            int was = counts[m * HOURS + hour];
            counts[m * HOURS + hour] = n;
            return was;
        }

        private int sumOf(int m, int hours) {
            int sum = 0;
            for (int hour = 0; hour < HOURS; hour++) {
                if ((hours >> hour & 1) != 0) {
                    sum += counts[m * HOURS + hour];
                }
            }
            return sum;
        }

        int setsAsLarge(int hours) {
            int size = Integer.bitCount(hours);
            return size <= HOURS ? SETS_BY_SIZE[size] : 0;
        }

        int setsAsGreat(int m, int hours) {
            return setsWith(counts, m * HOURS, 0, Integer.bitCount(hours), sumOf(m, hours));
        }

        /** How many sets of so many hours, from one hour on, have together what is missing. */
        private static int setsWith(int[] counts, int base, int from, int size, int missing) {
            if (size <= 0) {
                return missing <= 0 ? 1 : 0;
            }
            int sets = 0;
            for (int hour = from; hour <= HOURS - size; hour++) {
                sets += setsWith(counts, base, hour + 1, size - 1, missing - counts[base + hour]);
            }
            return sets;
        }

        int likesOf(int m, int hours) {
            int own = sumOf(m, hours);
            int likes = 0;
            for (int other = 0; other < MACHINES; other++) {
                if (groupOf[other] == groupOf[m] && sumOf(other, hours) >= own) {
                    likes++;
                }
            }
            return likes;
        }
    }

    private static final class Sketch {
        static final int MOST_TIMES = 99;
        private static final int LAST_THING = 9999;
        private static final int ROWS = 3, WIDTH = 16, CUT = 97;
        private static final int[] A = {31, 57, 83};
        private static final int[] B = {7, 19, 5};
        final int[] numbers = new int[ROWS * WIDTH];
        final int[] things = new int[MOST_THINGS];
        final int[] times = new int[MOST_THINGS];
        int known;

        static boolean isThing(int x) {
            return isIn(x, 0, LAST_THING);
        }

        private static int spotOf(int x, int r) {
            return r * WIDTH + (x * A[r] + B[r]) / CUT % WIDTH;
        }

        private int indexOf(int x) {
            for (int k = 0; k < known; k++) {
                if (things[k] == x) {
                    return k;
                }
            }
            return NONE;
        }

        /** Takes a thing in n times; false: it is new and there is no room for it. */
        boolean take(int x, int n) {
            int k = indexOf(x);
            if (k == NONE) {
                if (known >= MOST_THINGS) {
                    return false;
                }
                k = known;
                things[k] = x;
                known++;
            }
            times[k] += n;
            for (int r = 0; r < ROWS; r++) {
                numbers[spotOf(x, r)] += n;
            }
            return true;
        }

        int toldOf(int x) {
            int least = numbers[spotOf(x, 0)];
            for (int r = 1; r < ROWS; r++) {
                least = Math.min(least, numbers[spotOf(x, r)]);
            }
            return least;
        }

        int trulyOf(int x) {
            int k = indexOf(x);
            return k == NONE ? 0 : times[k];
        }

        int missed() {
            int sum = 0;
            for (int k = 0; k < known; k++) {
                if (toldOf(things[k]) > times[k]) {
                    sum++;
                }
            }
            return sum;
        }
    }

    private static final class Trap {
        // No sign ever leads back to state 0, so its number can stand for none.
        static final int NOWHERE = 0;
        final int[] leads = new int[MOST_STATES * SIGNS];
        final int[] cameBy = new int[MOST_STATES];
        final int[] answers = new int[MOST_STATES];
        final int[] depths = new int[MOST_STATES];
        int states = 1;
        int barred;

        boolean isBarred(int first, int second) {
            return (barred >> first * SIGNS + second & 1) != 0;
        }

        void turnBar(int first, int second) {
            barred ^= 1 << first * SIGNS + second;
        }

        int leadsTo(int state, int sign) {
            return leads[state * SIGNS + sign];
        }

        int growBy(Sheet cells, int i, int n) {
            if (hasBarred(cells, i, n)) {
                return STATE;
            }
            int along = 0;
            int state = 0;
            while (along < n && leadsTo(state, cells.values[i + along]) != NOWHERE) {
                state = leadsTo(state, cells.values[i + along]);
                along++;
            }
            if (states + n - along > MOST_STATES) {
                return FULL;
            }
            for (int k = along; k < n; k++) {
                state = newState(state, cells.values[i + k]);
            }
            return state;
        }

        private boolean hasBarred(Sheet cells, int i, int n) {
            for (int k = 1; k < n; k++) {
                if (isBarred(cells.values[i + k - 1], cells.values[i + k])) {
                    return true;
                }
            }
            return false;
        }

        private int newState(int state, int sign) {
            leads[state * SIGNS + sign] = states;
            cameBy[states] = sign;
            states++;
            return states - 1;
        }

        private boolean canGo(int state, int sign) {
            return leadsTo(state, sign) != NOWHERE && (state == 0 || !isBarred(cameBy[state], sign));
        }

        int goneAlong(Sheet cells, int i, int n) {
            int state = 0;
            for (int k = 0; k < n; k++) {
                int sign = cells.values[i + k];
                if (!canGo(state, sign)) {
                    return k;
                }
                state = leadsTo(state, sign);
            }
            return n;
        }

        // Each state is come to by one row alone and is numbered behind the state it grew from,
        // so one round by numbers tells how deep each one lies.
        int rowsOf(int n) {
            Arrays.fill(depths, NONE);
            depths[0] = 0;
            int rows = 0;
            for (int state = 0; state < states; state++) {
                if (depths[state] == NONE) {
                    continue;
                }
                if (depths[state] == n) {
                    rows++;
                }
                for (int sign = 0; sign < SIGNS; sign++) {
                    if (canGo(state, sign)) {
                        depths[leadsTo(state, sign)] = depths[state] + 1;
                    }
                }
            }
            return rows;
        }
    }

    /** Who may look, and how many looks are kept; nothing asks for a single look again. */
    private static final class Keepers {
        final int[] till = new int[KEEPERS * MACHINES];
        final int[] kept = new int[KEEPERS];
        final int[] keptBarred = new int[KEEPERS];
        int keptByAll;

        Keepers() {
            Arrays.fill(till, NONE);
        }

        int allow(int keeper, int m, int tick) {
            int was = till[keeper * MACHINES + m];
            till[keeper * MACHINES + m] = tick;
            return was;
        }

        int keepLook(int keeper, int m, int tick) {
            if (keptByAll >= MOST_LOOKS) {
                return FULL;
            }
            keptByAll++;
            kept[keeper]++;
            if (till[keeper * MACHINES + m] >= tick) {
                return 1;
            }
            keptBarred[keeper]++;
            return 0;
        }
    }

    private static final class Sheet {
        final int[] values = new int[SHEET_CELLS];
        boolean has;
        int lane;
        int size;

        void begin(int newLane, int n) {
            has = true;
            lane = newLane;
            size = n;
            Arrays.fill(values, 0);
        }

        boolean isOfOther(int asLane) {
            return has && lane != asLane;
        }

        // Compared without a sum, which could wrap.
        boolean spans(int i, int n) {
            return i >= 0 && i <= size && n >= 0 && n <= size - i;
        }

        boolean areAllIn(int i, int n, int low, int high) {
            for (int k = i; k < i + n; k++) {
                if (!isIn(values[k], low, high)) {
                    return false;
                }
            }
            return true;
        }

        int cut(int v) {
            if (lane == 0) {
                return (byte) v;
            }
            return lane == 1 ? (short) v : v;
        }
    }
}
