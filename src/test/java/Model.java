import java.util.ArrayDeque;
import java.util.ArrayList;
import java.util.Arrays;
import java.util.HashMap;
import java.util.HashSet;
import java.util.List;
import java.util.Map;
import java.util.Set;
import java.util.TreeMap;

/**
 * The document once more, written for plainness alone: it searches through everything where the
 * program takes a shorter way, so that both are unlikely to be wrong in the same manner.
 */
final class Model {
    static final int UNKNOWN = -1, OUTSIDE = -2, STATE = -3, FULL = -4, NONE = -9;
    static final long LOST = Long.MIN_VALUE;

    private static final class ATalk {
        int kind, from, to, unseen, latest = NONE;
        /** All bytes that were seen at a place, in their order. */
        final Map<Integer, List<Integer>> seen = new TreeMap<>();
    }

    private record Finding(int row, int talk, int tick) { }

    private record Work(int a, int b, int weight) { }

    private final Set<Set<Integer>> roads = new HashSet<>();
    private final Set<Set<Integer>> posts = new HashSet<>();
    private final List<Set<Integer>> doors = new ArrayList<>();
    private final Set<Integer> shutOnes = new HashSet<>();
    private final List<ATalk> talks = new ArrayList<>();
    private final List<List<Integer>> patterns = new ArrayList<>();
    private final List<Finding> findings = new ArrayList<>();
    private final List<Integer> verdicts = new ArrayList<>();
    private final int[][] counts = new int[10][14];
    private final int[] groups = new int[10];
    private final List<int[]> puts = new ArrayList<>();
    private final Set<List<Integer>> barred = new HashSet<>();
    private final Map<List<Integer>, Integer> states = new HashMap<>();
    private final List<List<Integer>> rowOfState = new ArrayList<>();
    private final int[] answers = new int[16];
    private final List<Work> works = new ArrayList<>();
    private final Map<List<Integer>, Integer> till = new HashMap<>();
    private final List<int[]> kept = new ArrayList<>();
    private final int[][] sheets = new int[4][];
    private final int[] lanes = new int[4];
    private int trace;
    private int fault;

    Model() {
        states.put(List.of(), 0);
        rowOfState.add(List.of());
    }

    private static boolean machine(int m) {
        return 0 <= m && m <= 9;
    }

    private static boolean tick(int t) {
        return 0 <= t && t <= 999;
    }

    private static Set<Integer> pair(int a, int b) {
        return Set.of(a, b);
    }

    private static List<Integer> bits(int set) {
        List<Integer> all = new ArrayList<>();
        for (int k = 0; k < 32; k++) {
            if ((set & 1 << k) != 0) {
                all.add(k);
            }
        }
        return all;
    }

    // ---- 1

    int road(int a, int b, boolean is) {
        if (!machine(a) || !machine(b)) return UNKNOWN;
        if (a == b) return OUTSIDE;
        if (is) return roads.add(pair(a, b)) ? 1 : 0;
        if (!roads.remove(pair(a, b))) return 0;
        posts.remove(pair(a, b));
        shutOnes.remove(doors.indexOf(pair(a, b)));
        return 1;
    }

    private boolean isRoad(int a, int b) {
        return a != b && roads.contains(pair(a, b));
    }

    int post(int a, int b, boolean is) {
        if (!machine(a) || !machine(b) || !isRoad(a, b)) return UNKNOWN;
        return (is ? posts.add(pair(a, b)) : posts.remove(pair(a, b))) ? 1 : 0;
    }

    int door(int a, int b) {
        if (!machine(a) || !machine(b) || !isRoad(a, b)) return UNKNOWN;
        if (!doors.contains(pair(a, b))) {
            if (doors.size() == 8) return FULL;
            doors.add(pair(a, b));
        }
        return doors.indexOf(pair(a, b));
    }

    int shut(int d, boolean is) {
        if (d < 0 || d >= doors.size()) return UNKNOWN;
        if (!roads.contains(doors.get(d))) return STATE;
        return (is ? shutOnes.add(d) : shutOnes.remove(d)) ? 1 : 0;
    }

    /** All roads that can be gone along, with some doors shut besides. */
    private Set<Set<Integer>> openRoads(int besides) {
        Set<Set<Integer>> open = new HashSet<>(roads);
        for (int d = 0; d < doors.size(); d++) {
            if (shutOnes.contains(d) || (besides & 1 << d) != 0) {
                open.remove(doors.get(d));
            }
        }
        return open;
    }

    /** Rows of machines, shorter ones and earlier ones first: the first that ends at b. */
    private static List<Integer> firstWay(Set<Set<Integer>> open, int a, int b) {
        ArrayDeque<List<Integer>> waiting = new ArrayDeque<>();
        Set<Integer> met = new HashSet<>();
        waiting.add(List.of(a));
        met.add(a);
        while (!waiting.isEmpty()) {
            List<Integer> row = waiting.poll();
            int end = row.get(row.size() - 1);
            if (end == b) return row;
            for (int m = 0; m < 10; m++) {
                if (m != end && open.contains(pair(end, m)) && met.add(m)) {
                    List<Integer> longer = new ArrayList<>(row);
                    longer.add(m);
                    waiting.add(longer);
                }
            }
        }
        return null;
    }

    int way(int a, int b, int k) {
        if (!machine(a) || !machine(b) || k < -1 || k > 9) return UNKNOWN;
        List<Integer> row = firstWay(openRoads(0), a, b);
        if (row == null) return NONE;
        if (k == -1) return row.size() - 1;
        return k < row.size() ? row.get(k) : NONE;
    }

    int blind(int a, int b) {
        if (!machine(a) || !machine(b)) return UNKNOWN;
        if (a == b) return OUTSIDE;
        Set<Set<Integer>> open = openRoads(0);
        open.removeAll(posts);
        return firstWay(open, a, b) != null ? 1 : 0;
    }

    int talk(int kind, int a, int b) {
        if (!machine(a) || !machine(b)) return UNKNOWN;
        if (kind < 0 || kind > 2 || a == b) return OUTSIDE;
        if (talks.size() == 8) return FULL;
        ATalk t = new ATalk();
        t.kind = kind;
        t.from = a;
        t.to = b;
        talks.add(t);
        return talks.size() - 1;
    }

    private boolean noTalk(int t) {
        return t < 0 || t >= talks.size();
    }

    /** The answer of a call that takes cells, where it does not come to take them; else 0. */
    private int refusal(int k, int lane, int i, int n) {
        fault = 0;
        if (k < 0 || k > 3) return UNKNOWN;
        if (lane < 0 || lane > 2) return OUTSIDE;
        if (sheets[k] != null && lanes[k] != lane) return fault(2);
        if (sheets[k] == null) return fault(1);
        if (n < 0) return fault(4);
        if (i < 0 || (long) i + n > sheets[k].length) return fault(3);
        return 0;
    }

    private int fault(int which) {
        fault = which;
        return -10 - which;
    }

    private List<Integer> cells(int k, int i, int n) {
        List<Integer> all = new ArrayList<>();
        for (int at = i; at < i + n; at++) {
            all.add(sheets[k][at]);
        }
        return all;
    }

    private static boolean all(List<Integer> cells, int low, int high) {
        return cells.stream().allMatch(v -> low <= v && v <= high);
    }

    int piece(int t, int place, int tick, int sheet, int lane, int i, int n) {
        fault = 0;
        if (noTalk(t) || sheet < 0 || sheet > 3) return UNKNOWN;
        if (place < 0 || place > 59 || !tick(tick)) return OUTSIDE;
        int refusal = refusal(sheet, lane, i, n);
        if (refusal != 0) return refusal;
        List<Integer> bytes = cells(sheet, i, n);
        if (n < 1 || n > 20 || !all(bytes, 0, 127)) return OUTSIDE;
        ATalk talk = talks.get(t);
        List<Integer> row = firstWay(openRoads(0), talk.from, talk.to);
        if (row == null) return STATE;
        boolean seen = false;
        for (int k = 1; k < row.size(); k++) {
            seen |= posts.contains(pair(row.get(k - 1), row.get(k)));
        }
        if (!seen) {
            talk.unseen++;
            return 0;
        }
        talk.latest = tick;
        for (int k = 0; k < n; k++) {
            talk.seen.computeIfAbsent(place + k, p -> new ArrayList<>()).add(bytes.get(k));
        }
        return 1;
    }

    private static int reading(ATalk talk, int reading, int place) {
        List<Integer> bytes = talk.seen.get(place);
        if (bytes == null) return NONE;
        int first = bytes.get(0);
        if (reading == 0) return first;
        return bytes.stream().filter(v -> v != first).findFirst().orElse(first);
    }

    private static int joined(ATalk talk) {
        int places = 0;
        while (talk.seen.containsKey(places)) {
            places++;
        }
        return places;
    }

    private static int length(ATalk talk) {
        int last = talk.seen.keySet().stream().mapToInt(p -> p + 1).max().orElse(0);
        return talk.kind == 2 ? Math.max(0, last - 4) : last;
    }

    int about(int t, int what) {
        if (noTalk(t)) return UNKNOWN;
        ATalk talk = talks.get(t);
        int two = 0;
        int more = 0;
        for (int place : talk.seen.keySet()) {
            int first = reading(talk, 0, place);
            int second = reading(talk, 1, place);
            two += first == second ? 0 : 1;
            for (int v : talk.seen.get(place)) {
                more += v == first || v == second ? 0 : 1;
            }
        }
        int[] answers = {talk.kind, talk.from, talk.to, joined(talk), length(talk), two, more, talk.unseen, talk.latest};
        return what < 0 || what > 8 ? OUTSIDE : answers[what];
    }

    int at(int t, int reading, int place) {
        if (noTalk(t) || place < 0 || place > 78) return UNKNOWN;
        if (reading < 0 || reading > 1) return OUTSIDE;
        if (talks.get(t).kind > 0) return STATE;
        return reading(talks.get(t), reading, place);
    }

    // ---- 2

    int row(int sheet, int lane, int i, int n) {
        int refusal = refusal(sheet, lane, i, n);
        if (refusal != 0) return refusal;
        List<Integer> cells = cells(sheet, i, n);
        if (n < 1 || n > 6 || !all(cells, -1, 127)) return OUTSIDE;
        if (patterns.size() == 8) return FULL;
        patterns.add(cells);
        return patterns.size() - 1;
    }

    private List<Integer> places(int r, int t, int reading) {
        List<Integer> pattern = patterns.get(r);
        List<Integer> places = new ArrayList<>();
        for (int place = 0; place < 79; place++) {
            boolean fits = place + pattern.size() <= joined(talks.get(t));
            for (int k = 0; k < pattern.size(); k++) {
                fits &= pattern.get(k) == -1 || pattern.get(k) == reading(talks.get(t), reading, place + k);
            }
            if (fits) {
                places.add(place);
            }
        }
        return places;
    }

    int fits(int r, int t, int reading, int what) {
        if (r < 0 || r >= patterns.size() || noTalk(t)) return UNKNOWN;
        if (reading < 0 || reading > 1 || what < 0 || what > 1) return OUTSIDE;
        if (talks.get(t).kind > 0) return STATE;
        List<Integer> places = places(r, t, reading);
        if (what == 0) return places.size();
        return places.isEmpty() ? NONE : places.get(0);
    }

    int scan(int tick) {
        if (!tick(tick)) return OUTSIDE;
        int come = 0;
        for (int t = 0; t < talks.size(); t++) {
            for (int r = 0; r < patterns.size(); r++) {
                int row = r;
                int talk = t;
                boolean there = findings.stream().anyMatch(f -> f.row == row && f.talk == talk);
                boolean fits = talks.get(t).kind == 0
                    && !(places(r, t, 0).isEmpty() && places(r, t, 1).isEmpty());
                if (fits && !there && findings.size() < 40) {
                    findings.add(new Finding(r, t, tick));
                    verdicts.add(0);
                    come++;
                }
            }
        }
        return come;
    }

    int finding(int f, int what) {
        if (f < 0 || f >= findings.size()) return UNKNOWN;
        Finding it = findings.get(f);
        return what == 0 ? it.row : what == 1 ? it.talk : what == 2 ? it.tick : what == 3 ? verdicts.get(f) : OUTSIDE;
    }

    int clear(int f, int is) {
        if (f < 0 || f >= findings.size()) return UNKNOWN;
        if (is < 0 || is > 2) return OUTSIDE;
        return verdicts.set(f, is);
    }

    private static long share(long upper, long lower, int which) {
        for (long by = lower; by > 1; by--) {
            if (upper % by == 0 && lower % by == 0) {
                return which == 0 ? upper / by : lower / by;
            }
        }
        return which == 0 ? upper : lower;
    }

    long nothing(int r, int which) {
        if (r < 0 || r >= patterns.size() || which < 0 || which > 1) return LOST;
        int cleared = 0;
        int judged = 0;
        for (int f = 0; f < findings.size(); f++) {
            if (findings.get(f).row == r && verdicts.get(f) != 0) {
                judged++;
                cleared += verdicts.get(f) == 1 ? 1 : 0;
            }
        }
        return judged == 0 ? LOST : share(cleared, judged, which);
    }

    int chain(int sheet, int lane, int i, int n) {
        int refusal = refusal(sheet, lane, i, n);
        if (refusal != 0) return refusal;
        StringBuilder text = new StringBuilder();
        for (int code : cells(sheet, i, n)) {
            text.append(code >= 0 && code <= 127 ? (char) code : '?');
        }
        String row = patterns.isEmpty() ? "(?!)" : "[0-" + (patterns.size() - 1) + "]";
        String[] parts = new String[12];
        StringBuilder whole = new StringBuilder(row);
        whole.append("(,").append(row).append("){0,4}@[0-9]{1,3}");
        java.util.regex.Pattern form = java.util.regex.Pattern.compile(whole.toString());
        if (!form.matcher(text).matches()) {
            return -100 - firstFault(form, text.toString());
        }
        String[] halves = text.toString().split("@");
        parts = halves[0].split(",");
        int machines = 0;
        for (int m = 0; m < 10; m++) {
            if (hasChain(m, parts, Integer.parseInt(halves[1]), new ArrayList<>())) {
                machines |= 1 << m;
            }
        }
        return machines;
    }

    /** How long the longest beginning is with which some text goes on. */
    private static int firstFault(java.util.regex.Pattern form, String text) {
        for (int most = text.length(); most > 0; most--) {
            java.util.regex.Matcher m = form.matcher(text.substring(0, most));
            if (m.matches() || m.hitEnd()) {
                return most;
            }
        }
        return 0;
    }

    private boolean hasChain(int m, String[] rows, int span, List<Integer> taken) {
        int k = taken.size();
        if (k == rows.length) {
            return findings.get(taken.get(k - 1)).tick - findings.get(taken.get(0)).tick <= span;
        }
        for (int f = 0; f < findings.size(); f++) {
            Finding it = findings.get(f);
            boolean suits = verdicts.get(f) != 1 && talks.get(it.talk).from == m
                && it.row == Integer.parseInt(rows[k]) && !taken.contains(f)
                && (k == 0 || findings.get(taken.get(k - 1)).tick <= it.tick);
            if (suits) {
                List<Integer> longer = new ArrayList<>(taken);
                longer.add(f);
                if (hasChain(m, rows, span, longer)) return true;
            }
        }
        return false;
    }

    // ---- 3

    int count(int m, int hour, int n) {
        if (!machine(m)) return UNKNOWN;
        if (hour < 0 || hour > 13 || n < 0 || n > 999) return OUTSIDE;
        int was = counts[m][hour];
        counts[m][hour] = n;
        return was;
    }

    private int sum(int m, int hours) {
        return bits(hours).stream().mapToInt(h -> counts[m][h]).sum();
    }

    long odds(int m, int hours, int which) {
        if (!machine(m) || hours < 1 || hours > 16383 || which < 0 || which > 1) return LOST;
        int own = sum(m, hours);
        int great = 0;
        int all = 0;
        for (int set = 1; set < 16384; set++) {
            if (Integer.bitCount(set) == Integer.bitCount(hours)) {
                all++;
                int sum = 0;
                for (int h = 0; h < 14; h++) {
                    sum += (set & 1 << h) != 0 ? counts[m][h] : 0;
                }
                great += sum >= own ? 1 : 0;
            }
        }
        return share(great, all, which);
    }

    int group(int m, int g) {
        if (!machine(m)) return UNKNOWN;
        if (g < 0 || g > 3) return OUTSIDE;
        int was = groups[m];
        groups[m] = g;
        return was;
    }

    int likes(int m, int hours) {
        if (!machine(m)) return UNKNOWN;
        if (hours < 1 || hours > 16383) return OUTSIDE;
        int all = 0;
        for (int o = 0; o < 10; o++) {
            all += groups[o] == groups[m] && sum(o, hours) >= sum(m, hours) ? 1 : 0;
        }
        return all;
    }

    private static int spot(int x, int r) {
        int a = r == 0 ? 31 : r == 1 ? 57 : 83;
        int b = r == 0 ? 7 : r == 1 ? 19 : 5;
        return Math.floorMod(Math.floorDiv(x * a + b, 97), 16);
    }

    private int toldOf(int x) {
        int least = Integer.MAX_VALUE;
        for (int r = 0; r < 3; r++) {
            int sum = 0;
            for (int[] put : puts) {
                sum += spot(put[0], r) == spot(x, r) ? put[1] : 0;
            }
            least = Math.min(least, sum);
        }
        return least;
    }

    private int trulyOf(int x) {
        return puts.stream().filter(p -> p[0] == x).mapToInt(p -> p[1]).sum();
    }

    int put(int x, int n) {
        if (x < 0 || x > 9999 || n < 1 || n > 99) return OUTSIDE;
        long unlike = puts.stream().mapToInt(p -> p[0]).distinct().count();
        if (unlike == 200 && trulyOf(x) == 0) return FULL;
        puts.add(new int[] {x, n});
        return toldOf(x);
    }

    int told(int x, int what) {
        if (x < 0 || x > 9999 || what < 0 || what > 1) return OUTSIDE;
        return what == 0 ? toldOf(x) : trulyOf(x);
    }

    int miss() {
        return (int) puts.stream().mapToInt(p -> p[0]).distinct().filter(x -> toldOf(x) > trulyOf(x)).count();
    }

    // ---- 4: a state is the row of signs by which it is come to

    int bar(int first, int second, boolean is) {
        if (first < 0 || first > 3 || second < 0 || second > 3) return OUTSIDE;
        List<Integer> two = List.of(first, second);
        return (is ? barred.add(two) : barred.remove(two)) ? 1 : 0;
    }

    private boolean hasBarred(List<Integer> row) {
        for (int k = 1; k < row.size(); k++) {
            if (barred.contains(List.of(row.get(k - 1), row.get(k)))) return true;
        }
        return false;
    }

    int grow(int sheet, int lane, int i, int n) {
        int refusal = refusal(sheet, lane, i, n);
        if (refusal != 0) return refusal;
        List<Integer> row = cells(sheet, i, n);
        if (n < 1 || n > 10 || !all(row, 0, 3)) return OUTSIDE;
        if (hasBarred(row)) return STATE;
        List<List<Integer>> fresh = new ArrayList<>();
        for (int k = 1; k <= n; k++) {
            if (!states.containsKey(row.subList(0, k))) {
                fresh.add(List.copyOf(row.subList(0, k)));
            }
        }
        if (states.size() + fresh.size() > 16) return FULL;
        for (List<Integer> state : fresh) {
            states.put(state, rowOfState.size());
            rowOfState.add(state);
        }
        return states.get(row);
    }

    int gone(int sheet, int lane, int i, int n) {
        int refusal = refusal(sheet, lane, i, n);
        if (refusal != 0) return refusal;
        List<Integer> row = cells(sheet, i, n);
        if (n > 10 || !all(row, 0, 3)) return OUTSIDE;
        int k = n;
        while (!states.containsKey(row.subList(0, k)) || hasBarred(row.subList(0, k))) {
            k--;
        }
        return k;
    }

    int answer(int state, int a) {
        if (state < 0 || state >= states.size()) return UNKNOWN;
        if (a < 0 || a > 99) return OUTSIDE;
        int was = answers[state];
        answers[state] = a;
        return was;
    }

    int next(int state, int sign) {
        if (state < 0 || state >= states.size()) return UNKNOWN;
        if (sign < 0 || sign > 3) return OUTSIDE;
        List<Integer> row = new ArrayList<>(rowOfState.get(state));
        row.add(sign);
        return states.getOrDefault(row, NONE);
    }

    int rows(int n) {
        if (n < 0 || n > 20) return OUTSIDE;
        return (int) states.keySet().stream().filter(row -> row.size() == n && !hasBarred(row)).count();
    }

    // ---- 5

    int work(int a, int b, int weight) {
        if (!machine(a) || !machine(b)) return UNKNOWN;
        if (a == b || weight < 1 || weight > 99) return OUTSIDE;
        if (works.size() == 8) return FULL;
        works.add(new Work(a, b, weight));
        return works.size() - 1;
    }

    private int stopped(int besides, int what) {
        int answer = 0;
        for (int w = 0; w < works.size(); w++) {
            Work it = works.get(w);
            if (firstWay(openRoads(besides), it.a, it.b) == null) {
                answer += what == 0 ? 1 << w : it.weight;
            }
        }
        return answer;
    }

    private boolean areDoors(int set) {
        return set >= 0 && bits(set).stream().allMatch(d -> d < doors.size());
    }

    int still(int set, int what) {
        if (!areDoors(set) || what < 0 || what > 1) return OUTSIDE;
        return stopped(set, what);
    }

    private static boolean apart(int machines, int others) {
        return machines > 0 && others > 0 && machines < 1024 && others < 1024 && (machines & others) == 0;
    }

    private boolean parts(int machines, int others, int besides) {
        Set<Set<Integer>> open = openRoads(besides);
        for (int a : bits(machines)) {
            for (int b : bits(others)) {
                if (firstWay(open, a, b) != null) return false;
            }
        }
        return true;
    }

    int parted(int machines, int others, int set) {
        if (!apart(machines, others) || !areDoors(set)) return OUTSIDE;
        return parts(machines, others, set) ? 1 : 0;
    }

    int least(int machines, int others, int what) {
        if (!apart(machines, others) || what < 0 || what > 1) return OUTSIDE;
        int[] best = null;
        for (int set = 0; set < 1 << doors.size(); set++) {
            boolean openOnes = bits(set).stream().noneMatch(shutOnes::contains);
            if (openOnes && parts(machines, others, set)) {
                int[] it = {stopped(set, 1), Integer.bitCount(set), set};
                if (best == null || Arrays.compare(it, best) < 0) {
                    best = it;
                }
            }
        }
        return best == null ? NONE : what == 0 ? best[2] : best[0];
    }

    int may(int keeper, int m, int tillTick) {
        if (keeper < 0 || keeper > 3 || !machine(m)) return UNKNOWN;
        if (tillTick < -1 || tillTick > 999) return OUTSIDE;
        Integer was = tillTick == -1 ? till.remove(List.of(keeper, m)) : till.put(List.of(keeper, m), tillTick);
        return was == null ? NONE : was;
    }

    int look(int keeper, int t, int tick) {
        if (keeper < 0 || keeper > 3 || noTalk(t)) return UNKNOWN;
        if (!tick(tick)) return OUTSIDE;
        if (talks.get(t).kind > 0) return STATE;
        if (kept.size() == 60) return FULL;
        int may = tick <= till.getOrDefault(List.of(keeper, talks.get(t).from), -1) ? 1 : 0;
        kept.add(new int[] {keeper, may});
        return may;
    }

    int looks(int keeper, int what) {
        if (keeper < 0 || keeper > 3) return UNKNOWN;
        if (what < 0 || what > 1) return OUTSIDE;
        return (int) kept.stream().filter(l -> l[0] == keeper && (what == 0 || l[1] == 0)).count();
    }

    // ---- 6

    int sheet(int k, int lane, int n) {
        fault = 0;
        if (k < 0 || k > 3) return UNKNOWN;
        if (lane < 0 || lane > 2 || n > 60) return OUTSIDE;
        if (n < 0) return fault(4);
        sheets[k] = new int[n];
        lanes[k] = lane;
        return 1;
    }

    int lose(int k) {
        if (k < 0 || k > 3) return UNKNOWN;
        int had = sheets[k] == null ? 0 : 1;
        sheets[k] = null;
        return had;
    }

    int set(int k, int i, int v) {
        fault = 0;
        if (k < 0 || k > 3) return UNKNOWN;
        if (sheets[k] == null) return fault(1);
        if (i < 0 || i >= sheets[k].length) return fault(3);
        sheets[k][i] = lanes[k] == 0 ? (byte) v : lanes[k] == 1 ? (short) v : v;
        return 1;
    }

    long cell(int k, int i, int lane) {
        fault = 0;
        if (k < 0 || k > 3 || lane < 0 || lane > 2) return LOST;
        if (sheets[k] != null && lanes[k] != lane) fault = 2;
        else if (sheets[k] == null) fault = 1;
        else if (i < 0 || i >= sheets[k].length) fault = 3;
        return fault != 0 ? LOST : sheets[k][i];
    }

    int copy(int k, int i, int other, int j, int n) {
        fault = 0;
        if (k < 0 || k > 3 || other < 0 || other > 3) return UNKNOWN;
        if (sheets[k] == null || sheets[other] == null) return fault(1);
        if (lanes[k] != lanes[other]) return fault(2);
        if (i < 0 || j < 0 || n < 0 || (long) i + n > sheets[k].length || (long) j + n > sheets[other].length) {
            return fault(3);
        }
        int[] were = sheets[k].clone();
        for (int at = 0; at < n; at++) {
            sheets[other][j + at] = were[i + at];
        }
        return n;
    }

    private void leave(int... numbers) {
        for (int number : numbers) {
            trace = trace * 31 + number;
        }
    }

    int tell(int t) {
        if (noTalk(t)) return UNKNOWN;
        int length = length(talks.get(t));
        switch (talks.get(t).kind) {
            case 0: leave(1); return length;
            case 1: leave(2, 1); return length + 1000;
            default: leave(3, 2, 1, 1); return length + 1000 + length;
        }
    }

    int call(int t) {
        if (noTalk(t)) return UNKNOWN;
        boolean carried = talks.get(t).kind == 2;
        leave(carried ? 5 : 4);
        return carried ? 77 : t;
    }

    int as(int t, int kind) {
        fault = 0;
        if (noTalk(t)) return UNKNOWN;
        if (kind < 0 || kind > 2) return OUTSIDE;
        return talks.get(t).kind < kind ? fault(2) : 1;
    }

    int trace() {
        return trace;
    }

    int fault() {
        return fault;
    }

    int many(int what) {
        int[] sums = {roads.size(), doors.size(), talks.size(), patterns.size(), findings.size(), states.size(),
            works.size(), kept.size()};
        return what < 0 || what > 7 ? OUTSIDE : sums[what];
    }
}
