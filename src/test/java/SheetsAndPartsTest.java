/** Promises 39 to 49: sheets, what talks tell, faults, how many there are. */
public final class SheetsAndPartsTest {
    private static final Check c = new Check();
    private static final int LEAST = Integer.MIN_VALUE, GREATEST = Integer.MAX_VALUE;

    public static void main(String[] args) {
        sheet();
        lose();
        set();
        cell();
        copy();
        copyFaults();
        tell();
        call();
        as();
        trace();
        fault();
        many();
        c.end();
    }

    private static void sheet() {
        WireWatch x = new WireWatch();
        c.due("60", x.sheet(3, 2, 60), 1);
        x.set(3, 59, 7);
        c.due("a new row", x.sheet(3, 2, 60), 1);
        c.due("of 0 at first", x.cell(3, 59, 2), 0);
        c.due("none", x.sheet(3, 0, 0), 1);
        c.due("has no cell 0", x.cell(3, 0, 0), WireWatch.LOST);
        c.due("INDEX", x.fault(), 3);
        c.due("n -1", x.sheet(3, 1, -1), -14);
        c.due("SIZE", x.fault(), 4);
        c.due("the least n", x.sheet(3, 1, LEAST), -14);
        c.due("it changes nothing", x.cell(3, 0, 1), WireWatch.LOST);
        c.due("CAST", x.fault(), 2);
        c.due("n 61", x.sheet(3, 1, 61), WireWatch.OUTSIDE);
        c.due("no fault", x.fault(), 0);
        c.due("lane 3", x.sheet(3, 3, -1), WireWatch.OUTSIDE);
        c.due("lane -1", x.sheet(3, -1, 1), WireWatch.OUTSIDE);
        for (int no : new int[] {-1, 4, LEAST, GREATEST}) {
            c.due("sheet " + no, x.sheet(no, 3, -1), WireWatch.UNKNOWN);
        }
    }

    private static void lose() {
        WireWatch x = new WireWatch();
        c.due("had nothing", x.lose(0), 0);
        x.sheet(0, 0, 1);
        c.due("lost", x.lose(0), 1);
        c.due("nothing", x.set(0, 0, 1), -11);
        c.due("had nothing then", x.lose(0), 0);
        c.due("the fault stays", x.fault(), 1);
        c.due("sheet 4", x.lose(4), WireWatch.UNKNOWN);
        c.due("sheet -1", x.lose(-1), WireWatch.UNKNOWN);
    }

    private static void set() {
        WireWatch x = new WireWatch();
        int[] values = {0, 127, 128, -128, -129, 255, 256, 32767, 32768, -32769, 65535, 65536, LEAST, GREATEST};
        for (int lane = 0; lane < 3; lane++) {
            x.sheet(lane, lane, 2);
            for (int v : values) {
                long cut = lane == 0 ? (byte) v : lane == 1 ? (short) v : v;
                c.due("set " + v, x.set(lane, 1, v), 1);
                c.due("lane " + lane + ", " + v, x.cell(lane, 1, lane), cut);
                c.due("another cell", x.cell(lane, 0, lane), 0);
            }
        }
        c.due("nothing", x.set(3, -1, 0), -11);
        c.due("NULL", x.fault(), 1);
        for (int no : new int[] {-1, 2, LEAST, GREATEST}) {
            c.due("cell " + no, x.set(0, no, 0), -13);
            c.due("INDEX", x.fault(), 3);
        }
        c.due("sheet 4", x.set(4, 0, 0), WireWatch.UNKNOWN);
        c.due("no fault", x.fault(), 0);
        c.due("sheet -1", x.set(-1, 0, 0), WireWatch.UNKNOWN);
    }

    private static void cell() {
        WireWatch x = new WireWatch();
        Check.fill(x, 0, 1, 4, 5);
        c.due("cell 1", x.cell(0, 1, 1), 5);
        c.due("no fault", x.fault(), 0);
        c.due("cast ahead of index", x.cell(0, -1, 2), WireWatch.LOST);
        c.due("CAST", x.fault(), 2);
        c.due("nothing is no cast", x.cell(1, -1, 2), WireWatch.LOST);
        c.due("NULL", x.fault(), 1);
        for (int no : new int[] {-1, 2, LEAST, GREATEST}) {
            c.due("cell " + no, x.cell(0, no, 1), WireWatch.LOST);
            c.due("INDEX", x.fault(), 3);
        }
        c.due("lane 3", x.cell(1, 0, 3), WireWatch.LOST);
        c.due("a refusal is no fault", x.fault(), 0);
        x.cell(0, 9, 1);
        c.due("sheet 4", x.cell(4, 0, 0), WireWatch.LOST);
        c.due("a refusal is no fault", x.fault(), 0);
        c.due("lane -1", x.cell(0, 0, -1), WireWatch.LOST);
        c.due("sheet -1", x.cell(-1, 0, 0), WireWatch.LOST);
    }

    private static void copy() {
        WireWatch x = new WireWatch();
        Check.fill(x, 0, 1, 1, 2, 3, 4, 5);
        x.sheet(1, 1, 3);
        c.due("to another", x.copy(0, 2, 1, 1, 2), 2);
        c.due("0", x.cell(1, 0, 1), 0);
        c.due("3", x.cell(1, 1, 1), 3);
        c.due("4", x.cell(1, 2, 1), 4);
        c.due("onward in the same", x.copy(0, 0, 0, 1, 4), 4);
        int[] onward = {1, 1, 2, 3, 4};
        for (int i = 0; i < 5; i++) {
            c.due("onward " + i, x.cell(0, i, 1), onward[i]);
        }
        c.due("backward in the same", x.copy(0, 2, 0, 0, 3), 3);
        int[] backward = {2, 3, 4, 3, 4};
        for (int i = 0; i < 5; i++) {
            c.due("backward " + i, x.cell(0, i, 1), backward[i]);
        }
        c.due("none at the ends", x.copy(0, 5, 1, 3, 0), 0);
        c.due("no fault", x.fault(), 0);
    }

    private static void copyFaults() {
        WireWatch x = new WireWatch();
        x.sheet(0, 1, 5);
        x.sheet(1, 1, 3);
        x.sheet(2, 2, 3);
        c.due("the first is nothing", x.copy(3, -1, 2, 0, 1), -11);
        c.due("the other is nothing", x.copy(0, -1, 3, 0, 1), -11);
        c.due("NULL", x.fault(), 1);
        c.due("unlike lanes", x.copy(0, -1, 2, 0, 1), -12);
        c.due("CAST", x.fault(), 2);
        c.due("i -1", x.copy(0, -1, 1, 0, 1), -13);
        c.due("INDEX", x.fault(), 3);
        c.due("j -1", x.copy(0, 0, 1, -1, 1), -13);
        c.due("n -1 is an index", x.copy(0, 0, 1, 0, -1), -13);
        c.due("i beyond", x.copy(0, 4, 1, 0, 2), -13);
        c.due("j beyond", x.copy(0, 0, 1, 2, 2), -13);
        c.due("i beyond, none taken", x.copy(0, 6, 1, 0, 0), -13);
        c.due("j beyond, none taken", x.copy(0, 0, 1, 4, 0), -13);
        c.due("n that wraps", x.copy(0, 1, 1, 1, GREATEST), -13);
        c.due("i that wraps", x.copy(0, GREATEST, 1, 1, 1), -13);
        c.due("sheet 4", x.copy(4, 0, 3, 0, 0), WireWatch.UNKNOWN);
        c.due("no fault", x.fault(), 0);
        c.due("other 4", x.copy(3, 0, 4, 0, 0), WireWatch.UNKNOWN);
        c.due("sheet -1", x.copy(-1, 0, 0, 0, 0), WireWatch.UNKNOWN);
        c.due("other -1", x.copy(0, 0, -1, 0, 0), WireWatch.UNKNOWN);
    }

    /** Talks 0, 1, 2 of the kinds 0, 1, 2, each with six bytes. */
    private static WireWatch talks() {
        WireWatch x = Check.watchedPair();
        for (int t = 0; t < 3; t++) {
            x.talk(t, 0, 1);
            Check.piece(x, t, 0, 0, 1, 2, 3, 4, 5, 6);
        }
        return x;
    }

    private static void tell() {
        WireWatch x = talks();
        c.due("talk", x.tell(0), 6);
        c.due("1", x.trace(), 1);
        x = talks();
        c.due("sealed", x.tell(1), 1006);
        c.due("2, 1", x.trace(), 2 * 31 + 1);
        x = talks();
        c.due("carried", x.tell(2), 2 + 1000 + 2);
        c.due("3, 2, 1, 1", x.trace(), ((3 * 31 + 2) * 31 + 1) * 31 + 1);
        int trace = x.trace();
        c.due("talk 3", x.tell(3), WireWatch.UNKNOWN);
        c.due("talk -1", x.tell(-1), WireWatch.UNKNOWN);
        c.due("they leave nothing", x.trace(), trace);
    }

    private static void call() {
        WireWatch x = talks();
        x.talk(0, 1, 0);
        c.due("talk", x.call(3), 3);
        c.due("4", x.trace(), 4);
        c.due("sealed", x.call(1), 1);
        c.due("4, 4", x.trace(), 4 * 31 + 4);
        c.due("carried", x.call(2), 77);
        c.due("4, 4, 5", x.trace(), (4 * 31 + 4) * 31 + 5);
        c.due("talk 4", x.call(4), WireWatch.UNKNOWN);
        c.due("talk -1", x.call(-1), WireWatch.UNKNOWN);
        c.due("they leave nothing", x.trace(), (4 * 31 + 4) * 31 + 5);
    }

    private static void as() {
        WireWatch x = talks();
        for (int t = 0; t < 3; t++) {
            for (int kind = 0; kind < 3; kind++) {
                c.due(t + " as " + kind, x.as(t, kind), t >= kind ? 1 : -12);
                c.due("fault of " + t + " as " + kind, x.fault(), t >= kind ? 0 : 2);
            }
        }
        x.as(0, 1);
        c.due("kind 3", x.as(0, 3), WireWatch.OUTSIDE);
        c.due("no fault", x.fault(), 0);
        c.due("kind -1", x.as(0, -1), WireWatch.OUTSIDE);
        c.due("talk 3", x.as(3, 3), WireWatch.UNKNOWN);
        c.due("talk -1", x.as(-1, 0), WireWatch.UNKNOWN);
    }

    private static void trace() {
        WireWatch x = talks();
        int wraps = 0;
        for (int k = 0; k < 20; k++) {
            x.call(0);
            wraps = wraps * 31 + 4;
            c.due("trace " + k, x.trace(), wraps);
        }
    }

    private static void fault() {
        WireWatch x = new WireWatch();
        x.set(0, 0, 0);
        c.due("NULL", x.fault(), 1);
        c.due("NULL still", x.fault(), 1);
        x.road(0, 1, true);
        x.talk(0, 0, 1);
        x.road(10, 1, true);
        x.look(9, 9, 9);
        x.tell(9);
        x.odds(99, 0, 0);
        x.nothing(0, 0);
        x.lose(0);
        c.due("calls that name none", x.fault(), 1);
        x.sheet(0, 0, 1);
        c.due("it came to none", x.fault(), 0);
        String[] calls = {"piece", "row", "chain", "grow", "gone", "sheet", "set", "cell", "copy", "as"};
        for (int k = 0; k < calls.length; k++) {
            x.set(1, 0, 0);
            c.due("NULL ahead of " + calls[k], x.fault(), 1);
            refuse(x, k);
            c.due("refused " + calls[k], x.fault(), 0);
        }
    }

    private static void refuse(WireWatch x, int k) {
        switch (k) {
            case 0: x.piece(9, 0, 0, 0, 0, 0, 0); break;
            case 1: x.row(9, 0, 0, 0); break;
            case 2: x.chain(9, 0, 0, 0); break;
            case 3: x.grow(9, 0, 0, 0); break;
            case 4: x.gone(9, 0, 0, 0); break;
            case 5: x.sheet(9, 0, 0); break;
            case 6: x.set(9, 0, 0); break;
            case 7: x.cell(9, 0, 0); break;
            case 8: x.copy(9, 0, 0, 0, 0); break;
            default: x.as(9, 0); break;
        }
    }

    private static void many() {
        WireWatch x = talks();
        x.door(0, 1);
        x.road(1, 2, true);
        Check.row(x, 1);
        Check.row(x, 9);
        x.scan(0);
        Check.grow(x, 1, 1, 1);
        x.work(0, 1, 1);
        x.look(0, 0, 0);
        int[] sums = {2, 1, 3, 2, 1, 4, 1, 1};
        for (int what = 0; what < 8; what++) {
            c.due("many " + what, x.many(what), sums[what]);
        }
        for (int no : new int[] {-1, 8, LEAST, GREATEST}) {
            c.due("many " + no, x.many(no), WireWatch.OUTSIDE);
        }
    }
}
