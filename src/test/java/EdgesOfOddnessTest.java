/** Boundary cases of section 3 and of promises 19 to 25, a sentence each. */
public final class EdgesOfOddnessTest extends Edge {
    private static final int ALL = 16383;
    private static final int[] NO_HOURS = {0, -1, 16384, 16385, LEAST, GREATEST};
    private static final int[] NO_THING = {-1, 10000, LEAST, GREATEST};

    public static void main(String[] args) {
        count();
        oddsEnds();
        oddsRefused();
        group();
        likes();
        put();
        putFull();
        told();
        miss();
        end();
    }

    private static void count() {
        edge("COUNTS of a MACHINE in HOURS 0 .. 13 (0 .. 999; 0 at first)");
        for (int m = 0; m < 10; m += 9) {
            for (int hour = 0; hour < 14; hour += 13) {
                due(0, "count", m, hour, 999);
                due(999, "count", m, hour, 0);
                due(0, "count", m, hour, 1);
                due(1, "count", m, hour, 998);
            }
        }
        due(0, "count", 0, 1, 0);
        due(0, "count", 1, 0, 0);
        due(0, "count", 8, 13, 0);
        due(0, "count", 9, 12, 0);
        edge("COUNTS become n: what they were. UNKNOWN; OUTSIDE.");
        due(0, "count", 0, 0, 7);
        due(UNKNOWN, "count", NO_MACHINE, new int[] {0, 14}, new int[] {0, 1000});
        due(OUTSIDE, "count", 0, new int[] {-1, 14, LEAST, GREATEST}, 0);
        due(OUTSIDE, "count", 0, 0, new int[] {-1, 1000, LEAST, GREATEST});
        due(OUTSIDE, "count", 0, 14, 1000);
        due(7, "count", 0, 0, 7);
    }

    private static void oddsEnds() {
        edge("of all sets of as many HOURS those whose COUNTS together are as great or greater, by all");
        due(1, "odds", 0, new int[] {1, 8192, 3, 127, ALL}, new int[] {0, 1});
        for (int hour = 0; hour < 14; hour++) {
            due(0, "count", 9, hour, 999 - hour);
        }
        int[] sizes = {14, 91, 364, 1001, 2002, 3003, 3432, 3003, 2002, 1001, 364, 91, 14, 1};
        for (int size = 1; size <= 14; size++) {
            int first = (1 << size) - 1;
            due(1, "odds", 9, first, 0);
            due(sizes[size - 1], "odds", 9, first, 1);
            due(1, "odds", 9, first << 14 - size, new int[] {0, 1});
        }
        due(1, "odds", 9, 2, 0);
        due(7, "odds", 9, 2, 1);
        due(13, "odds", 9, 1 << 12, 0);
        due(14, "odds", 9, 1 << 12, 1);
        edge("as great or greater: a set that is just as great, and one that is less by one");
        due(0, "count", 0, 0, 5);
        due(0, "count", 0, 13, 5);
        due(1, "odds", 0, 1, 0);
        due(7, "odds", 0, 1, 1);
        due(5, "count", 0, 13, 4);
        due(14, "odds", 0, 1, 1);
        due(7, "odds", 0, 8192, 1);
        due(1, "odds", 1, 1, 1);
        edge("COUNTS together: the greatest sum there can be");
        for (int hour = 0; hour < 14; hour++) {
            due(0, "count", 5, hour, 999);
        }
        due(1, "odds", 5, new int[] {1, 127, ALL}, new int[] {0, 1});
        due(999, "count", 5, 0, 998);
        due(1, "odds", 5, 127 << 1, 0);
        due(2, "odds", 5, 127 << 1, 1);
        due(1, "odds", 5, 127, new int[] {0, 1});
    }

    private static void oddsRefused() {
        edge("ODDS of a set of HOURS (not empty). LOST: UNKNOWN; OUTSIDE: hours, which.");
        lost(UNKNOWN, "odds", NO_MACHINE, new int[] {0, 1}, new int[] {0, 2});
        lost(OUTSIDE, "odds", 0, NO_HOURS, new int[] {0, 1, 2});
        lost(OUTSIDE, "odds", 0, new int[] {1, ALL}, NOT_0_OR_1);
        due(1, "odds", new int[] {0, 9}, new int[] {1, ALL}, new int[] {0, 1});
    }

    private static void group() {
        edge("GROUPS 0 .. 3 of MACHINES (0 at first)");
        due(0, "group", 0, 3);
        due(3, "group", 0, 0);
        due(0, "group", 9, 1);
        due(1, "group", 9, 3);
        due(0, "group", 8, 2);
        edge("A MACHINE is of a GROUP: which it was of. UNKNOWN; OUTSIDE.");
        due(0, "group", 0, 2);
        due(UNKNOWN, "group", NO_MACHINE, new int[] {0, 4});
        due(OUTSIDE, "group", 0, new int[] {-1, 4, LEAST, GREATEST});
        due(2, "group", 0, 2);
    }

    private static void likes() {
        edge("how many of its GROUP (it, too) have as great a sum in these HOURS, or greater");
        due(10, "likes", new int[] {0, 9}, new int[] {1, 8192, ALL});
        due(0, "count", 0, 0, 5);
        due(1, "likes", 0, 1);
        due(10, "likes", 1, 1);
        due(10, "likes", 0, 2);
        due(0, "count", 9, 0, 5);
        due(2, "likes", new int[] {0, 9}, 1);
        due(5, "count", 9, 0, 4);
        due(1, "likes", 0, 1);
        due(2, "likes", 9, 1);
        due(0, "count", 9, 13, 1);
        due(2, "likes", 0, 8193);
        due(0, "group", 0, 3);
        due(1, "likes", 0, 2);
        due(9, "likes", 1, 2);
        due(1, "likes", 9, 8193);
        edge("LIKES in a set of HOURS (not empty). UNKNOWN; OUTSIDE.");
        due(UNKNOWN, "likes", NO_MACHINE, new int[] {0, 1, ALL});
        due(OUTSIDE, "likes", new int[] {0, 9}, NO_HOURS);
    }

    private static void put() {
        edge("A THING x (0 .. 9999) is put in n times (1 .. 99)");
        due(1, "put", 0, 1);
        due(100, "put", 0, 99);
        due(99, "put", 9999, 99);
        due(100, "put", 9999, 1);
        due(OUTSIDE, "put", NO_THING, new int[] {1, 99});
        due(OUTSIDE, "put", new int[] {0, 9999, 5}, new int[] {0, -1, 100, LEAST, GREATEST});
        due(OUTSIDE, "put", NO_THING, 0);
        due(100, "told", new int[] {0, 9999}, new int[] {0, 1});
        edge("the rest by 16 of (x times A and B) by 97 (cut)");
        int[] a = {31, 57, 83};
        int[] b = {7, 19, 5};
        int[][] rows = new int[3][16];
        for (int x : new int[] {0, 1, 2, 3, 49, 50, 1552, 9997, 9998, 9999}) {
            int least = GREATEST;
            for (int r = 0; r < 3; r++) {
                int at = (x * a[r] + b[r]) / 97 % 16;
                rows[r][at] += 10;
                least = Math.min(least, rows[r][at]);
            }
            due(least, "put", x, 10);
        }
        edge("three rows of 16 numbers (0 at first)");
        for (int x = 0; x < 10000; x += 1111) {
            due(0, "told", x, new int[] {0, 1});
        }
    }

    private static void putFull() {
        edge("OUTSIDE; FULL: 200 unlike ones.");
        for (int x = 0; x < 199; x++) {
            one(x * 50);
        }
        due(OUTSIDE, "put", 9999, 100);
        one(9999);
        due(FULL, "put", new int[] {1, 9998}, new int[] {1, 99});
        due(OUTSIDE, "put", 1, new int[] {0, 100});
        due(OUTSIDE, "put", NO_THING, 1);
        due(0, "told", 1, 1);
        due(1, "told", 9999, 1);
        one(0);
        due(2, "told", 0, 1);
        one(9999);
        due(2, "told", 9999, 1);
        due(FULL, "put", 1, 1);
        edge("200 unlike ones: one that came often is one of them");
        for (int k = 0; k < 210; k++) {
            due(k + 1, "put", 5000, 1);
        }
        due(210, "told", 5000, 1);
        due(1, "put", 0, 1);
    }

    /** One thing more, by its own three numbers. */
    private static void one(int x) {
        due(counted(x), "put", x, 1);
    }

    private static final int[][] NUMBERS = new int[3][16];

    private static int counted(int x) {
        int[] spots = {(x * 31 + 7) / 97 % 16, (x * 57 + 19) / 97 % 16, (x * 83 + 5) / 97 % 16};
        int least = GREATEST;
        for (int r = 0; r < 3; r++) {
            NUMBERS[r][spots[r]]++;
            least = Math.min(least, NUMBERS[r][spots[r]]);
        }
        return least;
    }

    private static void told() {
        edge("Of a THING: TOLD (what 0), TRULY (1). OUTSIDE.");
        due(0, "told", new int[] {0, 9999}, new int[] {0, 1});
        due(5, "put", 0, 5);
        due(5, "told", 0, new int[] {0, 1});
        due(5, "told", 1, 0);
        due(0, "told", 1, 1);
        due(OUTSIDE, "told", NO_THING, new int[] {0, 1, 2});
        due(OUTSIDE, "told", new int[] {0, 9999}, NOT_0_OR_1);
    }

    private static void miss() {
        edge("of all THINGS that were put in how many are TOLD more than TRULY");
        due(0, "miss");
        due(1, "put", 0, 1);
        due(0, "miss");
        due(2, "put", 0, 1);
        due(0, "miss");
        due(3, "put", 1, 1);
        due(2, "miss");
        due(1, "put", 9999, 1);
        due(2, "miss");
    }
}
