/** Promises 19 to 25: counts, odds, groups, likes and the sketch. */
public final class OddnessTest {
    private static final Check c = new Check();
    private static final int LEAST = Integer.MIN_VALUE, GREATEST = Integer.MAX_VALUE;
    private static final int ALL = (1 << 14) - 1;

    public static void main(String[] args) {
        count();
        odds();
        group();
        likes();
        put();
        putByRows();
        putFull();
        told();
        miss();
        c.end();
    }

    private static void count() {
        WireWatch x = new WireWatch();
        c.due("was 0", x.count(9, 13, 999), 0);
        c.due("was 999", x.count(9, 13, 0), 999);
        c.due("another hour", x.count(9, 12, 1), 0);
        c.due("another machine", x.count(8, 13, 1), 0);
        for (int no : new int[] {-1, 10, LEAST, GREATEST}) {
            c.due("machine " + no, x.count(no, 14, 0), WireWatch.UNKNOWN);
        }
        for (int no : new int[] {-1, 14, LEAST, GREATEST}) {
            c.due("hour " + no, x.count(0, no, 0), WireWatch.OUTSIDE);
        }
        for (int no : new int[] {-1, 1000, LEAST, GREATEST}) {
            c.due("n " + no, x.count(8, 13, no), WireWatch.OUTSIDE);
        }
        c.due("unchanged by these", x.count(8, 13, 2), 1);
    }

    private static void odds() {
        WireWatch x = new WireWatch();
        c.due("all are alike, upper", x.odds(0, 5, 0), 1);
        c.due("all are alike, lower", x.odds(0, 5, 1), 1);
        for (int hour = 0; hour < 14; hour++) {
            x.count(3, hour, hour);
        }
        c.due("hour 13, upper", x.odds(3, 1 << 13, 0), 1);
        c.due("hour 13, lower", x.odds(3, 1 << 13, 1), 14);
        c.due("hour 0, upper", x.odds(3, 1, 0), 1);
        c.due("hour 0, lower", x.odds(3, 1, 1), 1);
        c.due("hour 6: 8 of 14, upper", x.odds(3, 1 << 6, 0), 4);
        c.due("hour 6: 8 of 14, lower", x.odds(3, 1 << 6, 1), 7);
        c.due("12 and 11: 23, 24, 25, by one each and one more", x.odds(3, 3 << 11, 0), 4);
        c.due("of 91", x.odds(3, 3 << 11, 1), 91);
        c.due("the seven greatest", x.odds(3, ALL ^ 127, 1), 3432);
        c.due("all", x.odds(3, ALL, 1), 1);
        c.due("which 2", x.odds(3, 1, 2), WireWatch.LOST);
        c.due("which -1", x.odds(3, 1, -1), WireWatch.LOST);
        for (int no : new int[] {-1, 10, LEAST, GREATEST}) {
            c.due("machine " + no, x.odds(no, 1, 0), WireWatch.LOST);
        }
        for (int no : new int[] {0, -1, ALL + 1, LEAST, GREATEST}) {
            c.due("hours " + no, x.odds(3, no, 0), WireWatch.LOST);
        }
    }

    private static void group() {
        WireWatch x = new WireWatch();
        c.due("was 0", x.group(9, 3), 0);
        c.due("was 3", x.group(9, 1), 3);
        c.due("another", x.group(0, 0), 0);
        c.due("g 4", x.group(0, 4), WireWatch.OUTSIDE);
        c.due("g -1", x.group(0, -1), WireWatch.OUTSIDE);
        c.due("machine 10", x.group(10, 4), WireWatch.UNKNOWN);
        c.due("machine -1", x.group(-1, 0), WireWatch.UNKNOWN);
    }

    private static void likes() {
        WireWatch x = new WireWatch();
        c.due("all", x.likes(0, ALL), 10);
        x.count(0, 2, 5);
        x.count(1, 3, 5);
        x.count(2, 2, 6);
        c.due("hour 2", x.likes(0, 4), 2);
        c.due("hours 2, 3", x.likes(0, 12), 3);
        c.due("hour 3", x.likes(0, 8), 10);
        x.group(2, 1);
        c.due("less one of another group", x.likes(0, 12), 2);
        c.due("that alone", x.likes(2, 12), 1);
        c.due("machine 10", x.likes(10, 0), WireWatch.UNKNOWN);
        c.due("machine -1", x.likes(-1, 1), WireWatch.UNKNOWN);
        for (int no : new int[] {0, -1, ALL + 1, LEAST, GREATEST}) {
            c.due("hours " + no, x.likes(0, no), WireWatch.OUTSIDE);
        }
    }

    private static void put() {
        WireWatch x = new WireWatch();
        c.due("0 once", x.put(0, 1), 1);
        c.due("0 again", x.put(0, 99), 100);
        c.due("1 shares all numbers of 0", x.put(1, 1), 101);
        c.due("9999", x.put(9999, 2), 2);
        for (int no : new int[] {-1, 10000, LEAST, GREATEST}) {
            c.due("thing " + no, x.put(no, 1), WireWatch.OUTSIDE);
        }
        for (int no : new int[] {0, -1, 100, LEAST, GREATEST}) {
            c.due("times " + no, x.put(0, no), WireWatch.OUTSIDE);
        }
        c.due("unchanged by these", x.told(0, 0), 101);
    }

    /** Each row of the sketch by itself: told is the least of the three numbers. */
    private static void putByRows() {
        WireWatch x = new WireWatch();
        int[][] rows = new int[3][16];
        int[] a = {31, 57, 83};
        int[] b = {7, 19, 5};
        for (int k = 0; k < 150; k++) {
            int thing = k * 3571 % 10000;
            int least = Integer.MAX_VALUE;
            for (int r = 0; r < 3; r++) {
                int spot = (thing * a[r] + b[r]) / 97 % 16;
                rows[r][spot] += k % 99 + 1;
                least = Math.min(least, rows[r][spot]);
            }
            c.due("put " + thing, x.put(thing, k % 99 + 1), least);
        }
    }

    private static void putFull() {
        WireWatch x = new WireWatch();
        for (int k = 0; k < 200; k++) {
            c.isTrue("put " + k, x.put(k * 50, 1) > 0);
        }
        int told = x.told(1, 0);
        c.due("one more", x.put(1, 1), WireWatch.FULL);
        c.due("it changes nothing", x.told(1, 0), told);
        c.due("an old one", x.put(0, 1), told + 1);
        c.due("outside ahead of full", x.put(1, 100), WireWatch.OUTSIDE);
    }

    private static void told() {
        WireWatch x = new WireWatch();
        x.put(1, 4);
        c.due("0, told", x.told(0, 0), 4);
        c.due("0, truly", x.told(0, 1), 0);
        c.due("1, truly", x.told(1, 1), 4);
        x.put(1, 5);
        c.due("1, truly", x.told(1, 1), 9);
        c.due("what 2", x.told(1, 2), WireWatch.OUTSIDE);
        c.due("what -1", x.told(1, -1), WireWatch.OUTSIDE);
        c.due("thing 10000", x.told(10000, 0), WireWatch.OUTSIDE);
        c.due("thing -1", x.told(-1, 0), WireWatch.OUTSIDE);
    }

    private static void miss() {
        WireWatch x = new WireWatch();
        c.due("none", x.miss(), 0);
        x.put(1, 4);
        c.due("one alone", x.miss(), 0);
        x.put(0, 4);
        c.due("both", x.miss(), 2);
        x.put(9999, 1);
        c.due("both still", x.miss(), 2);
    }
}
