/** Promises 12 to 18: rows, what they fit, scans, findings, clearing, chains. */
public final class RowsAndFindingsTest {
    private static final Check c = new Check();
    private static final int LEAST = Integer.MIN_VALUE, GREATEST = Integer.MAX_VALUE;

    public static void main(String[] args) {
        row();
        fits();
        scan();
        scanRoom();
        finding();
        clear();
        nothing();
        chainFaults();
        chainFound();
        chainCleared();
        c.end();
    }

    private static void row() {
        WireWatch x = new WireWatch();
        c.due("sheet -1", x.row(-1, 3, 0, 1), WireWatch.UNKNOWN);
        c.due("sheet 4", x.row(4, 0, 0, 1), WireWatch.UNKNOWN);
        c.due("lane", x.row(0, 3, 0, 1), WireWatch.OUTSIDE);
        c.due("nothing", x.row(0, 0, 0, -1), -11);
        c.due("NULL", x.fault(), 1);
        Check.fill(x, 0, 1, -1, 0, 127, 128, -2, 1, 1, 1, 1, 1, 1, 1);
        c.due("cast", x.row(0, 0, 0, -1), -12);
        c.due("size", x.row(0, 1, 99, -1), -14);
        c.due("index", x.row(0, 1, 12, 1), -13);
        c.due("n 0", x.row(0, 1, 12, 0), WireWatch.OUTSIDE);
        c.due("n 7", x.row(0, 1, 5, 7), WireWatch.OUTSIDE);
        c.due("128", x.row(0, 1, 0, 4), WireWatch.OUTSIDE);
        c.due("-2", x.row(0, 1, 4, 1), WireWatch.OUTSIDE);
        c.due("no fault", x.fault(), 0);
        c.due("none yet", x.many(3), 0);
        for (int r = 0; r < 8; r++) {
            c.due("row " + r, x.row(0, 1, r == 0 ? 0 : 5, r == 0 ? 3 : 6), r);
        }
        c.due("a ninth", x.row(0, 1, 0, 3), WireWatch.FULL);
        c.due("a ninth, outside", x.row(0, 1, 0, 4), WireWatch.OUTSIDE);
        c.due("rows", x.many(3), 8);
    }

    private static void fits() {
        WireWatch x = Check.watchedPair();
        x.talk(0, 0, 1);
        x.talk(1, 0, 1);
        x.talk(2, 0, 1);
        Check.piece(x, 0, 0, 1, 5, 5, 6, 5);
        Check.piece(x, 0, 5, 1, 5, 5);
        Check.row(x, 5);
        Check.row(x, 5, -1);
        Check.row(x, -1, -1, -1, -1);
        Check.row(x, 6, 7);
        Check.row(x, -1, -1, -1, -1, -1);
        c.due("5", x.fits(0, 0, 0, 0), 3);
        c.due("5, first", x.fits(0, 0, 0, 1), 0);
        c.due("5, any: within what is joined", x.fits(1, 0, 0, 0), 2);
        c.due("any of four", x.fits(2, 0, 1, 0), 1);
        c.due("any of five", x.fits(4, 0, 0, 0), 0);
        c.due("any of five, first", x.fits(4, 0, 0, 1), WireWatch.NONE);
        Check.piece(x, 0, 3, 1, 7);
        c.due("not in the first reading", x.fits(3, 0, 0, 0), 0);
        c.due("in the second", x.fits(3, 0, 1, 0), 1);
        c.due("in the second, first", x.fits(3, 0, 1, 1), 2);
        c.due("5 in the second", x.fits(0, 0, 1, 0), 2);
        c.due("row", x.fits(5, 0, 2, 0), WireWatch.UNKNOWN);
        c.due("row -1", x.fits(-1, 0, 0, 0), WireWatch.UNKNOWN);
        c.due("talk", x.fits(0, 3, 2, 0), WireWatch.UNKNOWN);
        c.due("reading", x.fits(0, 1, 2, 0), WireWatch.OUTSIDE);
        c.due("reading -1", x.fits(0, 0, -1, 0), WireWatch.OUTSIDE);
        c.due("what", x.fits(0, 1, 0, 2), WireWatch.OUTSIDE);
        c.due("what -1", x.fits(0, 0, 0, -1), WireWatch.OUTSIDE);
        c.due("sealed", x.fits(0, 1, 0, 0), WireWatch.STATE);
        c.due("carried", x.fits(0, 2, 1, 1), WireWatch.STATE);
    }

    private static void scan() {
        WireWatch x = Check.watchedPair();
        for (int t = 0; t < 4; t++) {
            x.talk(t == 1 ? 1 : t == 3 ? 2 : 0, 0, 1);
            Check.piece(x, t, 0, 1, 1, 2, 3);
        }
        Check.row(x, 4);
        Check.row(x, 3);
        Check.row(x, 1, 2);
        c.due("tick -1", x.scan(-1), WireWatch.OUTSIDE);
        c.due("tick 1000", x.scan(1000), WireWatch.OUTSIDE);
        c.due("none by these", x.many(4), 0);
        c.due("found", x.scan(999), 4);
        c.due("no more", x.scan(0), 0);
        int[] rows = {1, 2, 1, 2};
        int[] talks = {0, 0, 2, 2};
        for (int f = 0; f < 4; f++) {
            c.due("row of " + f, x.finding(f, 0), rows[f]);
            c.due("talk of " + f, x.finding(f, 1), talks[f]);
            c.due("tick of " + f, x.finding(f, 2), 999);
        }
        x.clear(0, 1);
        c.due("a cleared one is there", x.scan(5), 0);
        Check.piece(x, 2, 1, 1, 4);
        c.due("by the second reading", x.scan(0), 1);
        c.due("its row", x.finding(4, 0), 0);
        Check.piece(x, 0, 2, 1, 5);
        Check.piece(x, 0, 1, 1, 5);
        Check.row(x, 2, 5);
        c.due("readings are not mixed", x.scan(0), 0);
    }

    private static void scanRoom() {
        WireWatch x = Check.watchedPair();
        for (int k = 0; k < 8; k++) {
            x.talk(0, 0, 1);
            Check.piece(x, k, 0, 1, 1);
            Check.row(x, k % 2 == 0 ? 1 : -1);
        }
        c.due("as many as there is room for", x.scan(7), 40);
        c.due("findings", x.many(4), 40);
        c.due("the last row", x.finding(39, 0), 7);
        c.due("the last talk", x.finding(39, 1), 4);
        c.due("no room", x.scan(8), 0);
    }

    private static WireWatch two() {
        WireWatch x = Check.watchedPair();
        x.talk(0, 0, 1);
        Check.piece(x, 0, 0, 1, 1);
        Check.row(x, 1);
        x.talk(0, 1, 0);
        Check.piece(x, 1, 0, 1, 1);
        x.scan(3);
        return x;
    }

    private static void finding() {
        WireWatch x = two();
        c.due("row", x.finding(1, 0), 0);
        c.due("talk", x.finding(1, 1), 1);
        c.due("tick", x.finding(1, 2), 3);
        c.due("neither", x.finding(1, 3), 0);
        c.due("what", x.finding(1, 4), WireWatch.OUTSIDE);
        c.due("what -1", x.finding(1, -1), WireWatch.OUTSIDE);
        for (int no : new int[] {-1, 2, 40, LEAST, GREATEST}) {
            c.due("finding " + no, x.finding(no, 4), WireWatch.UNKNOWN);
        }
    }

    private static void clear() {
        WireWatch x = two();
        c.due("cleared", x.clear(1, 1), 0);
        c.due("told", x.finding(1, 3), 1);
        c.due("confirmed", x.clear(1, 2), 1);
        c.due("told then", x.finding(1, 3), 2);
        c.due("neither", x.clear(1, 0), 2);
        c.due("the other one", x.finding(0, 3), 0);
        c.due("is 3", x.clear(0, 3), WireWatch.OUTSIDE);
        c.due("is -1", x.clear(0, -1), WireWatch.OUTSIDE);
        c.due("finding -1", x.clear(-1, 3), WireWatch.UNKNOWN);
        c.due("finding 2", x.clear(2, 1), WireWatch.UNKNOWN);
    }

    private static void nothing() {
        WireWatch x = Check.watchedPair();
        Check.row(x, 1);
        Check.row(x, 2);
        for (int t = 0; t < 6; t++) {
            x.talk(0, 0, 1);
            Check.piece(x, t, 0, 1, 1);
        }
        x.scan(0);
        c.due("none is judged", x.nothing(0, 0), WireWatch.LOST);
        x.clear(0, 2);
        x.clear(1, 2);
        c.due("0 upper", x.nothing(0, 0), 0);
        c.due("0 lower", x.nothing(0, 1), 1);
        x.clear(2, 1);
        x.clear(3, 1);
        c.due("1 of 2, upper", x.nothing(0, 0), 1);
        c.due("1 of 2, lower", x.nothing(0, 1), 2);
        x.clear(4, 1);
        c.due("3 of 5, upper", x.nothing(0, 0), 3);
        c.due("3 of 5, lower", x.nothing(0, 1), 5);
        c.due("another row", x.nothing(1, 0), WireWatch.LOST);
        c.due("row -1", x.nothing(-1, 0), WireWatch.LOST);
        c.due("row 2", x.nothing(2, 0), WireWatch.LOST);
        c.due("which 2", x.nothing(0, 2), WireWatch.LOST);
        c.due("which -1", x.nothing(0, -1), WireWatch.LOST);
    }

    private static void chainFaults() {
        WireWatch x = two();
        Check.row(x, 2);
        String[] texts = {"", "0", "0,", "0@", "2@1", "1,2@1", "@1", ",", "0,,", "0@@", "0@1234", "0@1,", "00@1",
            "0,1,0,1,0,", "0,1,0,1,0", "0,1,0,1,0@", "0@ ", "0@1@", "0@12:", "0@/", "x", "0,@1", "0@-1"};
        int[] faults = {0, 1, 2, 2, 0, 2, 0, 0, 2, 2, 5, 3, 1,
            9, 9, 10, 2, 3, 4, 2, 0, 2, 2};
        for (int k = 0; k < texts.length; k++) {
            c.due("chain(" + texts[k] + ")", Check.chain(x, texts[k]), -100 - faults[k]);
        }
        c.due("no fault by a text", x.fault(), 0);
        for (String text : new String[] {"0@0", "0@12", "0@999", "0@007"}) {
            c.due("chain(" + text + ")", Check.chain(x, text), 3);
        }
        c.due("five rows", Check.chain(x, "0,1,0,1,0@5"), 0);
        Check.fill(x, 0, 2, 7, 48, 64, 49, 7);
        c.due("cells from 1 on", x.chain(0, 2, 1, 3), 3);
        c.due("a far code", x.chain(0, 2, 1, 4), -103);
        x.set(0, 1, LEAST);
        c.due("the least code", x.chain(0, 2, 1, 3), -100);
        c.due("sheet", x.chain(4, 3, 0, 0), WireWatch.UNKNOWN);
        c.due("lane", x.chain(0, -1, 0, 0), WireWatch.OUTSIDE);
        c.due("cast", x.chain(0, 1, 0, 0), -12);
        c.due("nothing", x.chain(1, 1, 0, 0), -11);
        c.due("size", x.chain(0, 2, 9, -1), -14);
        c.due("index", x.chain(0, 2, 2, 4), -13);
        c.due("index, none taken", x.chain(0, 2, 6, 0), -13);
        c.due("INDEX", x.fault(), 3);
        c.due("none taken", x.chain(0, 2, 5, 0), -100);
        c.due("that is no fault", x.fault(), 0);
    }

    /** Findings: row 0 by machine 0 at 10 and 20, row 1 by machine 0 at 15, row 0 by machine 1 at 20. */
    private static WireWatch chained() {
        WireWatch x = Check.watchedPair();
        Check.row(x, 1);
        Check.row(x, 2);
        for (int t = 0; t < 4; t++) {
            x.talk(0, t == 3 ? 1 : 0, t == 3 ? 0 : 1);
        }
        Check.piece(x, 0, 0, 0, 1);
        x.scan(10);
        Check.piece(x, 1, 0, 0, 2);
        x.scan(15);
        Check.piece(x, 2, 0, 0, 1);
        Check.piece(x, 3, 0, 0, 1);
        x.scan(20);
        return x;
    }

    private static void chainFound() {
        WireWatch x = chained();
        c.due("both", Check.chain(x, "0@0"), 3);
        c.due("0,1 within 5", Check.chain(x, "0,1@5"), 1);
        c.due("0,1 within 4", Check.chain(x, "0,1@4"), 0);
        c.due("1,0", Check.chain(x, "1,0@5"), 1);
        c.due("0,1,0 within 10", Check.chain(x, "0,1,0@10"), 1);
        c.due("0,1,0 within 9", Check.chain(x, "0,1,0@9"), 0);
        c.due("0,0 within 10", Check.chain(x, "0,0@10"), 1);
        c.due("0,0 within 9", Check.chain(x, "0,0@9"), 0);
        c.due("0,0,0", Check.chain(x, "0,0,0@99"), 0);
        c.due("1,1", Check.chain(x, "1,1@99"), 0);
        // scanned at an earlier tick: findings need not come by rising ticks
        x.talk(0, 1, 0);
        Check.piece(x, 4, 0, 0, 2);
        x.scan(20);
        c.due("at one tick", Check.chain(x, "0,1@0"), 2);
        c.due("at one tick, turned", Check.chain(x, "1,0@0"), 2);
        x.talk(0, 1, 0);
        Check.piece(x, 5, 0, 0, 2);
        x.scan(1);
        c.due("1 at 1, 0 at 20, 1 at 20", Check.chain(x, "1,0,1@19"), 2);
        c.due("1,1,0", Check.chain(x, "1,1,0@19"), 2);
        c.due("within 18", Check.chain(x, "1,1,0@18"), 0);
        c.due("0,1 by a later start", Check.chain(x, "0,1@1"), 2);
    }

    private static void chainCleared() {
        WireWatch x = chained();
        x.clear(0, 1);
        c.due("0,1, cleared", Check.chain(x, "0,1@99"), 0);
        c.due("0 by another", Check.chain(x, "0@0"), 3);
        x.clear(0, 2);
        c.due("0,1, confirmed", Check.chain(x, "0,1@99"), 1);
        x.clear(1, 1);
        c.due("0,1, the last cleared", Check.chain(x, "0,1@99"), 0);
    }
}
