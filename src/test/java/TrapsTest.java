/** Promises 26 to 31: what is barred, how the trap grows, what can be gone along. */
public final class TrapsTest {
    private static final Check c = new Check();
    private static final int LEAST = Integer.MIN_VALUE, GREATEST = Integer.MAX_VALUE;

    public static void main(String[] args) {
        bar();
        grow();
        growRefused();
        gone();
        answer();
        next();
        rows();
        c.end();
    }

    private static void bar() {
        WireWatch x = new WireWatch();
        c.due("not barred", x.bar(0, 3, false), 0);
        c.due("bar", x.bar(0, 3, true), 1);
        c.due("barred", x.bar(0, 3, true), 0);
        c.due("the other way", x.bar(3, 0, true), 1);
        c.due("no more", x.bar(0, 3, false), 1);
        c.due("3, 3", x.bar(3, 3, true), 1);
        for (int no : new int[] {-1, 4, LEAST, GREATEST}) {
            c.due("first " + no, x.bar(no, 0, true), WireWatch.OUTSIDE);
            c.due("second " + no, x.bar(0, no, true), WireWatch.OUTSIDE);
        }
    }

    private static void grow() {
        WireWatch x = new WireWatch();
        c.due("0", Check.grow(x, 0), 1);
        c.due("0 again", Check.grow(x, 0), 1);
        c.due("0 1 2", Check.grow(x, 0, 1, 2), 3);
        c.due("0 1", Check.grow(x, 0, 1), 2);
        c.due("3", Check.grow(x, 3), 4);
        c.due("states", x.many(5), 5);
        x.bar(0, 1, true);
        c.due("barred, though grown", Check.grow(x, 0, 1), WireWatch.STATE);
        c.due("barred in the midst", Check.grow(x, 2, 0, 1, 3), WireWatch.STATE);
        c.due("nothing grew", x.many(5), 5);
        c.due("ten", Check.grow(x, 3, 3, 3, 3, 3, 3, 3, 3, 3, 3), 13);
        c.due("states", x.many(5), 14);
        c.due("three more are too many", Check.grow(x, 2, 2, 2), WireWatch.FULL);
        c.due("nothing grew", x.next(0, 2), WireWatch.NONE);
        c.due("barred ahead of full", Check.grow(x, 2, 2, 0, 1), WireWatch.STATE);
        c.due("two more", Check.grow(x, 2, 2), 15);
        c.due("all along what is there", Check.grow(x, 2, 2), 15);
        c.due("one more", Check.grow(x, 1), WireWatch.FULL);
        c.due("states", x.many(5), 16);
    }

    private static void growRefused() {
        WireWatch x = new WireWatch();
        c.due("sheet", x.grow(4, 3, 0, 1), WireWatch.UNKNOWN);
        c.due("lane", x.grow(0, 3, 0, 1), WireWatch.OUTSIDE);
        c.due("nothing", x.grow(0, 0, 0, 1), -11);
        Check.fill(x, 0, 2, 0, 1, 2, 3, 0, 1, 2, 3, 0, 1, 4, -1);
        c.due("cast", x.grow(0, 0, 0, -1), -12);
        c.due("size", x.grow(0, 2, 13, -1), -14);
        c.due("index", x.grow(0, 2, 12, 1), -13);
        c.due("INDEX", x.fault(), 3);
        c.due("none", x.grow(0, 2, 12, 0), WireWatch.OUTSIDE);
        c.due("eleven", x.grow(0, 2, 0, 11), WireWatch.OUTSIDE);
        c.due("a sign of 4", x.grow(0, 2, 8, 3), WireWatch.OUTSIDE);
        c.due("a sign of -1", x.grow(0, 2, 11, 1), WireWatch.OUTSIDE);
        c.due("no fault", x.fault(), 0);
        x.set(0, 10, 2);
        c.due("eleven signs", x.grow(0, 2, 0, 11), WireWatch.OUTSIDE);
        c.due("eleven signs to go", x.gone(0, 2, 0, 11), WireWatch.OUTSIDE);
        c.due("from 1 on", x.grow(0, 2, 1, 2), 2);
        c.due("by 1", x.next(0, 1), 1);
        c.due("by 2", x.next(1, 2), 2);
    }

    private static void gone() {
        WireWatch x = new WireWatch();
        c.due("nowhere", Check.gone(x, 0), 0);
        Check.grow(x, 0, 1, 2, 3);
        c.due("all", Check.gone(x, 0, 1, 2, 3), 4);
        c.due("a part", Check.gone(x, 0, 1, 3, 3), 2);
        c.due("beyond", Check.gone(x, 0, 1, 2, 3, 0), 4);
        c.due("none of none", Check.gone(x), 0);
        x.bar(1, 2, true);
        c.due("barred", Check.gone(x, 0, 1, 2, 3), 2);
        x.bar(1, 2, false);
        c.due("all that was grown stays", Check.gone(x, 0, 1, 2, 3), 4);
        c.due("it never grows", x.many(5), 5);
        c.due("sheet", x.gone(-1, 3, 0, 1), WireWatch.UNKNOWN);
        c.due("lane", x.gone(0, 3, 0, 1), WireWatch.OUTSIDE);
        c.due("nothing", x.gone(0, 0, 0, 1), -11);
        Check.fill(x, 0, 1, 0, 1, 2, 3, 0, 1, 2, 3, 0, 1, 4);
        c.due("cast", x.gone(0, 0, 0, -1), -12);
        c.due("size", x.gone(0, 1, 13, -1), -14);
        c.due("index", x.gone(0, 1, 11, 1), -13);
        c.due("index, none taken", x.gone(0, 1, 12, 0), -13);
        c.due("none taken", x.gone(0, 1, 11, 0), 0);
        c.due("ten", x.gone(0, 1, 0, 10), 4);
        c.due("eleven", x.gone(0, 1, 0, 11), WireWatch.OUTSIDE);
        c.due("a sign of 4", x.gone(0, 1, 9, 2), WireWatch.OUTSIDE);
    }

    private static void answer() {
        WireWatch x = new WireWatch();
        c.due("was 0", x.answer(0, 99), 0);
        c.due("was 99", x.answer(0, 0), 99);
        c.due("no state 1", x.answer(1, 100), WireWatch.UNKNOWN);
        Check.grow(x, 0);
        c.due("state 1", x.answer(1, 5), 0);
        c.due("a 100", x.answer(1, 100), WireWatch.OUTSIDE);
        c.due("a -1", x.answer(1, -1), WireWatch.OUTSIDE);
        c.due("was 5", x.answer(1, 6), 5);
        for (int no : new int[] {-1, 2, 16, LEAST, GREATEST}) {
            c.due("state " + no, x.answer(no, 0), WireWatch.UNKNOWN);
        }
    }

    private static void next() {
        WireWatch x = new WireWatch();
        Check.grow(x, 2, 0);
        c.due("by 2", x.next(0, 2), 1);
        c.due("by 0", x.next(1, 0), 2);
        c.due("none", x.next(0, 0), WireWatch.NONE);
        c.due("none at the end", x.next(2, 3), WireWatch.NONE);
        x.bar(2, 0, true);
        c.due("what is grown stays", x.next(1, 0), 2);
        c.due("sign 4", x.next(0, 4), WireWatch.OUTSIDE);
        c.due("sign -1", x.next(0, -1), WireWatch.OUTSIDE);
        for (int no : new int[] {-1, 3, 16, LEAST, GREATEST}) {
            c.due("state " + no, x.next(no, 4), WireWatch.UNKNOWN);
        }
    }

    private static void rows() {
        WireWatch x = new WireWatch();
        Check.grow(x, 0, 1, 2);
        Check.grow(x, 0, 1, 3);
        Check.grow(x, 1, 2);
        int[] sums = {1, 2, 2, 2, 0};
        for (int n = 0; n < sums.length; n++) {
            c.due("rows of " + n, x.rows(n), sums[n]);
        }
        x.bar(1, 2, true);
        c.due("two, barred", x.rows(2), 1);
        c.due("three, barred", x.rows(3), 1);
        x.bar(0, 1, true);
        c.due("two, all barred", x.rows(2), 0);
        c.due("three, barred ahead", x.rows(3), 0);
        c.due("one", x.rows(1), 2);
        c.due("20", x.rows(20), 0);
        for (int no : new int[] {-1, 21, LEAST, GREATEST}) {
            c.due("rows of " + no, x.rows(no), WireWatch.OUTSIDE);
        }
    }
}
