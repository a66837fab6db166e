/** Promises 32 to 38: works, doors shut with the least harm, who may look at what. */
public final class DoorsAndKeepersTest {
    private static final Check c = new Check();
    private static final int LEAST = Integer.MIN_VALUE, GREATEST = Integer.MAX_VALUE;

    public static void main(String[] args) {
        work();
        still();
        parted();
        least();
        leastOfEqual();
        may();
        look();
        lookFull();
        looks();
        c.end();
    }

    private static void work() {
        WireWatch x = new WireWatch();
        for (int no : new int[] {-1, 10, LEAST, GREATEST}) {
            c.due("work from " + no, x.work(no, no, 0), WireWatch.UNKNOWN);
            c.due("work to " + no, x.work(0, no, 0), WireWatch.UNKNOWN);
        }
        c.due("itself", x.work(3, 3, 1), WireWatch.OUTSIDE);
        c.due("weight 0", x.work(3, 4, 0), WireWatch.OUTSIDE);
        c.due("weight 100", x.work(3, 4, 100), WireWatch.OUTSIDE);
        for (int w = 0; w < 8; w++) {
            c.due("work " + w, x.work(0, 9, w == 0 ? 99 : 1), w);
        }
        c.due("a ninth", x.work(0, 9, 1), WireWatch.FULL);
        c.due("a ninth, outside", x.work(0, 0, 1), WireWatch.OUTSIDE);
        c.due("works", x.many(6), 8);
        c.due("all are still", x.still(0, 0), 255);
        c.due("harm", x.still(0, 1), 106);
    }

    /** A ring 0-1-2-3-0 with doors 0 (0-1), 1 (1-2), 2 (2-3), 3 (3-0). */
    private static WireWatch ring() {
        WireWatch x = new WireWatch();
        for (int m = 0; m < 4; m++) {
            x.road(m, (m + 1) % 4, true);
            x.door(m, (m + 1) % 4);
        }
        return x;
    }

    private static void still() {
        WireWatch x = ring();
        x.work(0, 1, 5);
        x.work(2, 0, 7);
        x.work(4, 0, 1);
        c.due("as it is", x.still(0, 0), 4);
        c.due("harm as it is", x.still(0, 1), 1);
        c.due("one door", x.still(1, 0), 4);
        c.due("0 apart", x.still(9, 0), 7);
        c.due("harm, 0 apart", x.still(9, 1), 13);
        c.due("1 apart", x.still(3, 0), 5);
        c.due("nothing is shut by asking", x.way(0, 1, -1), 1);
        x.shut(0, true);
        c.due("one is shut", x.still(8, 1), 13);
        c.due("the same again", x.still(9, 1), 13);
        x.road(0, 1, false);
        c.due("a door whose road is gone", x.still(1, 0), 4);
        for (int no : new int[] {-1, 16, 17, LEAST, GREATEST}) {
            c.due("doors " + no, x.still(no, 0), WireWatch.OUTSIDE);
        }
        c.due("what 2", x.still(0, 2), WireWatch.OUTSIDE);
        c.due("what -1", x.still(0, -1), WireWatch.OUTSIDE);
    }

    private static void parted() {
        WireWatch x = ring();
        c.due("not", x.parted(1, 4, 0), 0);
        c.due("not by one", x.parted(1, 4, 2), 0);
        c.due("by two", x.parted(1, 4, 10), 1);
        c.due("not by two on one side", x.parted(1, 4, 3), 0);
        c.due("sets", x.parted(3, 12, 10), 1);
        c.due("sets, one near", x.parted(9, 6, 9), 0);
        c.due("apart from all", x.parted(16, 1023 ^ 16, 0), 1);
        x.shut(1, true);
        c.due("one is shut", x.parted(1, 4, 8), 1);
        for (int no : new int[] {0, -1, 1024, LEAST, GREATEST}) {
            c.due("machines " + no, x.parted(no, 4, 0), WireWatch.OUTSIDE);
            c.due("others " + no, x.parted(4, no, 0), WireWatch.OUTSIDE);
        }
        c.due("in both", x.parted(6, 4, 0), WireWatch.OUTSIDE);
        for (int no : new int[] {-1, 16, LEAST, GREATEST}) {
            c.due("doors " + no, x.parted(1, 2, no), WireWatch.OUTSIDE);
        }
    }

    private static void least() {
        WireWatch x = ring();
        x.work(0, 1, 9);
        x.work(2, 3, 8);
        c.due("0 from 2", x.least(1, 4, 0), 10);
        c.due("harm", x.least(1, 4, 1), 0);
        c.due("0 from 1", x.least(1, 2, 0), 3);
        c.due("harm", x.least(1, 2, 1), 9);
        c.due("parted as it is", x.least(1, 16, 0), 0);
        c.due("harm as it is", x.least(1, 16, 1), 0);
        x.shut(3, true);
        c.due("open ones alone", x.least(1, 4, 0), 2);
        x.road(0, 2, true);
        c.due("no doors part them", x.least(1, 4, 0), WireWatch.NONE);
        c.due("no harm, too", x.least(1, 4, 1), WireWatch.NONE);
        c.due("nothing is shut by asking", x.way(0, 1, -1), 1);
        for (int no : new int[] {0, -1, 1024, LEAST, GREATEST}) {
            c.due("machines " + no, x.least(no, 4, 0), WireWatch.OUTSIDE);
            c.due("others " + no, x.least(4, no, 0), WireWatch.OUTSIDE);
        }
        c.due("in both", x.least(6, 4, 0), WireWatch.OUTSIDE);
        c.due("what 2", x.least(1, 4, 2), WireWatch.OUTSIDE);
        c.due("what -1", x.least(1, 4, -1), WireWatch.OUTSIDE);
    }

    private static void leastOfEqual() {
        // 0 - 1 by the doors 0 and 1 over 2 and 3, then by door 2 alone from 1 to 4
        WireWatch x = new WireWatch();
        int[][] roads = {{0, 2}, {0, 3}, {1, 4}, {2, 1}, {3, 1}};
        for (int[] r : roads) {
            x.road(r[0], r[1], true);
        }
        x.door(0, 2);
        x.door(0, 3);
        x.door(1, 4);
        c.due("the fewest doors", x.least(1, 16, 0), 4);
        x.work(1, 4, 3);
        c.due("less harm by more doors", x.least(1, 16, 0), 3);
        x.work(0, 1, 3);
        c.due("the same harm by fewer", x.least(1, 16, 0), 4);
        WireWatch y = new WireWatch();
        y.road(0, 1, true);
        y.road(1, 2, true);
        y.door(1, 2);
        y.door(0, 1);
        c.due("the least as a number", y.least(1, 4, 0), 1);
        y.work(1, 2, 1);
        c.due("the least harm", y.least(1, 4, 0), 2);
    }

    private static void may() {
        WireWatch x = new WireWatch();
        c.due("not", x.may(3, 9, 0), WireWatch.NONE);
        c.due("till 0", x.may(3, 9, 999), 0);
        c.due("till 999", x.may(3, 9, -1), 999);
        c.due("not any more", x.may(3, 9, -1), WireWatch.NONE);
        c.due("not yet", x.may(3, 9, 5), WireWatch.NONE);
        c.due("another keeper", x.may(2, 9, 5), WireWatch.NONE);
        c.due("another machine", x.may(3, 8, 5), WireWatch.NONE);
        for (int no : new int[] {-1, 10, LEAST, GREATEST}) {
            c.due("keeper " + no, x.may(no, 0, -2), WireWatch.UNKNOWN);
            c.due("machine " + no, x.may(0, no, -2), WireWatch.UNKNOWN);
        }
        c.due("keeper 4", x.may(4, 0, 0), WireWatch.UNKNOWN);
        for (int no : new int[] {-2, 1000, LEAST, GREATEST}) {
            c.due("till " + no, x.may(3, 9, no), WireWatch.OUTSIDE);
        }
        c.due("unchanged by these", x.may(3, 9, 6), 5);
    }

    private static void look() {
        WireWatch x = new WireWatch();
        x.talk(0, 1, 2);
        x.talk(1, 1, 2);
        x.talk(2, 1, 2);
        c.due("it may not", x.look(0, 0, 0), 0);
        x.may(0, 2, 999);
        c.due("not by the other end", x.look(0, 0, 0), 0);
        x.may(0, 1, 7);
        c.due("it may", x.look(0, 0, 7), 1);
        c.due("no longer", x.look(0, 0, 8), 0);
        c.due("another may not", x.look(1, 0, 7), 0);
        c.due("keeper 4", x.look(4, 0, 1000), WireWatch.UNKNOWN);
        c.due("keeper -1", x.look(-1, 0, 0), WireWatch.UNKNOWN);
        c.due("talk 3", x.look(0, 3, 1000), WireWatch.UNKNOWN);
        c.due("tick ahead of sealed", x.look(0, 1, 1000), WireWatch.OUTSIDE);
        c.due("tick -1", x.look(0, 0, -1), WireWatch.OUTSIDE);
        c.due("sealed", x.look(0, 1, 0), WireWatch.STATE);
        c.due("carried", x.look(0, 2, 0), WireWatch.STATE);
        c.due("looks", x.many(7), 5);
    }

    private static void lookFull() {
        WireWatch x = new WireWatch();
        x.talk(0, 1, 2);
        x.talk(1, 1, 2);
        for (int k = 0; k < 60; k++) {
            c.due("look " + k, x.look(k % 4, 0, 0), 0);
        }
        c.due("one more", x.look(0, 0, 0), WireWatch.FULL);
        c.due("sealed ahead of full", x.look(0, 1, 0), WireWatch.STATE);
        c.due("looks", x.many(7), 60);
        c.due("of a keeper", x.looks(0, 0), 15);
    }

    private static void looks() {
        WireWatch x = new WireWatch();
        x.talk(0, 1, 2);
        x.may(2, 1, 5);
        x.look(2, 0, 5);
        x.look(2, 0, 6);
        x.look(2, 0, 0);
        x.look(3, 0, 0);
        x.may(2, 1, -1);
        x.may(3, 1, 9);
        c.due("of 2", x.looks(2, 0), 3);
        c.due("of 2, as it was then", x.looks(2, 1), 1);
        c.due("of 3, as it was then", x.looks(3, 1), 1);
        c.due("of 0", x.looks(0, 0), 0);
        c.due("keeper 4", x.looks(4, 2), WireWatch.UNKNOWN);
        c.due("keeper -1", x.looks(-1, 0), WireWatch.UNKNOWN);
        c.due("what 2", x.looks(0, 2), WireWatch.OUTSIDE);
        c.due("what -1", x.looks(0, -1), WireWatch.OUTSIDE);
    }
}
