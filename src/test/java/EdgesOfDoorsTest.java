/** Boundary cases of section 5 and of promises 32 to 38, a sentence each. */
public final class EdgesOfDoorsTest extends Edge {
    private static final int[] NO_MACHINES = {0, -1, 1024, 1025, LEAST, GREATEST};

    public static void main(String[] args) {
        work();
        workOrder();
        stillEnds();
        stillDoors();
        partedEnds();
        partedRefused();
        leastEnds();
        leastOfSeveral();
        leastRefused();
        may();
        look();
        lookMay();
        lookKept();
        looks();
        end();
    }

    private static void work() {
        edge("WORKS, 8 ever, numbered as they come");
        for (int w = 0; w < 8; w++) {
            due(w, "many", 6);
            due(w, "work", w, 9, w + 1);
        }
        due(8, "many", 6);
        due(FULL, "work", 0, 9, 1);
        due(255, "still", 0, 0);
        due(36, "still", 0, 1);
        edge("two MACHINES, a WEIGHT (1 .. 99)");
        due(0, "work", 0, 9, 1);
        due(1, "still", 0, 1);
        due(1, "work", 9, 0, 99);
        due(100, "still", 0, 1);
        due(OUTSIDE, "work", 0, 9, new int[] {0, -1, 100, LEAST, GREATEST});
        edge("HARM: their WEIGHTS together: the greatest there can be");
        for (int w = 0; w < 8; w++) {
            due(w, "work", 0, 9, 99);
        }
        due(792, "still", 0, 1);
        due(792, "least", 1, 512, 1);
    }

    private static void workOrder() {
        edge("A WORK: its number. UNKNOWN; OUTSIDE: both are one, weight; FULL.");
        for (int full = 0; full < 2; full++) {
            due(UNKNOWN, "work", NO_MACHINE, 0, new int[] {0, 1, 100});
            due(UNKNOWN, "work", 0, NO_MACHINE, new int[] {0, 1, 100});
            for (int no : NO_MACHINE) {
                due(UNKNOWN, "work", no, no, new int[] {0, 1});
            }
            due(OUTSIDE, "work", 0, 0, new int[] {0, 1, 99, 100});
            due(OUTSIDE, "work", 9, 9, 1);
            due(OUTSIDE, "work", 0, 1, new int[] {0, 100, LEAST, GREATEST});
            for (int w = 0; w < 8 && full == 0; w++) {
                due(w, "work", 0, 1, 1);
            }
        }
        due(FULL, "work", 0, 1, new int[] {1, 99});
    }

    private static void stillEnds() {
        edge("WORKS that have no WAY; HARM: their WEIGHTS together");
        due(0, "still", 0, new int[] {0, 1});
        roads(0, 1, 2);
        due(0, "work", 0, 2, 7);
        due(1, "work", 0, 1, 99);
        due(0, "still", 0, new int[] {0, 1});
        due(2, "work", 0, 3, 1);
        due(4, "still", 0, 0);
        due(1, "still", 0, 1);
        due(1, "road", 1, 2, false);
        due(5, "still", 0, 0);
        due(8, "still", 0, 1);
        edge("STILL, if some DOORS are shut besides those that are");
        roads(0, 1, 2, 3);
        for (int d = 0; d < 3; d++) {
            due(d, "door", d, d + 1);
            due(d, "work", d, d + 1, 10 + d);
        }
        for (int set = 0; set < 8; set++) {
            due(set, "still", set, 0);
        }
        due(33, "still", 7, 1);
        due(1, "shut", 1, true);
        due(2, "still", 0, 0);
        due(2, "still", 2, 0);
        due(7, "still", 5, 0);
        due(11, "still", 2, 1);
        edge("Sets are told as bits (bit k for number k): the eighth DOOR, the eighth WORK");
        roads(0, 1, 2, 3, 4, 5, 6, 7, 8);
        for (int d = 0; d < 8; d++) {
            due(d, "door", d, d + 1);
            due(d, "work", d, d + 1, 1);
        }
        due(128, "still", 128, 0);
        due(1, "still", 128, 1);
        due(255, "still", 255, 0);
        due(8, "still", 255, 1);
        due(128, "least", 128, 256, 0);
    }

    private static void stillDoors() {
        edge("OUTSIDE: a bit of none, what.");
        due(OUTSIDE, "still", new int[] {1, 128, -1, LEAST, GREATEST}, new int[] {0, 1, 2});
        due(OUTSIDE, "still", 0, NOT_0_OR_1);
        roads(0, 1, 2, 3, 4, 5, 6, 7, 8, 9);
        for (int d = 0; d < 8; d++) {
            due(d, "door", d, d + 1);
            due(0, "still", (2 << d) - 1, 0);
            due(OUTSIDE, "still", 2 << d, new int[] {0, 1});
            due(OUTSIDE, "still", (2 << d) + 1, new int[] {0, 1});
        }
        due(OUTSIDE, "still", new int[] {256, 257, 512, -1, LEAST, LEAST + 1, GREATEST}, new int[] {0, 1});
        due(OUTSIDE, "still", 255, NOT_0_OR_1);
        edge("a DOOR whose ROAD is none is one still: open, and numbered as it was");
        roads(0, 1, 2);
        due(0, "door", 0, 1);
        due(1, "door", 1, 2);
        due(0, "work", 1, 2, 3);
        due(1, "road", 0, 1, false);
        due(0, "still", 1, 0);
        due(1, "still", 3, 0);
        due(0, "parted", 2, 4, 1);
        due(OUTSIDE, "still", 4, 0);
        due(OUTSIDE, "parted", 2, 4, 4);
    }

    private static void partedEnds() {
        edge("no WAY from any of the one to any of the other");
        roads(0, 1);
        roads(8, 9);
        due(0, "parted", 1, 2, 0);
        due(1, "parted", 1, 512, 0);
        due(1, "parted", 3, 768, 0);
        due(0, "parted", 1 | 256, 512, 0);
        due(0, "parted", 512, 1 | 256, 0);
        due(1, "parted", 4, 1019, 0);
        due(1, "parted", 1019, 4, 0);
        due(0, "parted", 1, 1022, 0);
        due(0, "parted", 1023 ^ 512, 512, 0);
        due(0, "door", 0, 1);
        due(0, "parted", 1, 2, 0);
        due(1, "parted", 1, 2, 1);
        due(1, "parted", 1, 1022, 1);
        due(1, "shut", 0, true);
        due(1, "parted", 1, 2, new int[] {0, 1});
    }

    private static void partedRefused() {
        edge("a set of MACHINES from another one (both not empty, none in both). OUTSIDE: machines, others, doors.");
        due(OUTSIDE, "parted", NO_MACHINES, new int[] {0, 1, 1023}, 0);
        due(OUTSIDE, "parted", new int[] {0, 1, 1023}, NO_MACHINES, 0);
        due(OUTSIDE, "parted", 1, 1, 0);
        due(OUTSIDE, "parted", 1023, new int[] {1, 512, 1023}, 0);
        due(OUTSIDE, "parted", 513, 512, 0);
        due(OUTSIDE, "parted", 1, 2, new int[] {1, 2, 128, 256, -1, LEAST, GREATEST});
        due(1, "parted", 1, 1022, 0);
        roads(0, 1, 2, 3, 4, 5, 6, 7, 8, 9);
        for (int d = 0; d < 8; d++) {
            due(d, "door", d, d + 1);
            due(1, "parted", 1, 512, (2 << d) - 1);
            due(OUTSIDE, "parted", 1, 512, new int[] {2 << d, 4 << d});
        }
        due(0, "parted", 1, 512, 0);
        due(OUTSIDE, "parted", 1, 512, new int[] {256, -1, LEAST, GREATEST});
    }

    private static void leastEnds() {
        edge("the set of DOORS (what 0; 0: they are PARTED as it is)");
        due(0, "least", 1, 512, new int[] {0, 1});
        due(0, "least", 1, 1022, 0);
        due(0, "work", 4, 5, 6);
        due(0, "least", 1, 512, 0);
        due(6, "least", 1, 512, 1);
        roads(0, 1);
        due(0, "door", 0, 1);
        due(1, "least", 1, 2, 0);
        due(6, "least", 1, 2, 1);
        due(1, "shut", 0, true);
        due(0, "least", 1, 2, 0);
        edge("NONE: no DOORS part them");
        roads(0, 1);
        due(NONE, "least", 1, 2, new int[] {0, 1});
        due(NONE, "least", 2, 1, new int[] {0, 1});
        roads(1, 2);
        due(0, "door", 1, 2);
        due(NONE, "least", 1, 2, new int[] {0, 1});
        due(1, "least", 1, 4, 0);
        due(NONE, "least", 1, 6, new int[] {0, 1});
        edge("the set of DOORS (open ones) to be shut");
        roads(0, 1, 3);
        roads(0, 2, 3);
        due(0, "door", 0, 1);
        due(1, "door", 0, 2);
        due(3, "least", 1, 8, 0);
        due(1, "shut", 0, true);
        due(2, "least", 1, 8, 0);
        due(1, "shut", 1, true);
        due(0, "least", 1, 8, 0);
        edge("all eight DOORS");
        for (int d = 0; d < 8; d++) {
            roads(0, d + 1, 9);
            due(d, "door", 0, d + 1);
        }
        due(255, "least", 1, 512, 0);
        due(0, "least", 1, 512, 1);
        roads(0, 9);
        due(NONE, "least", 1, 512, new int[] {0, 1});
    }

    private static void leastOfSeveral() {
        edge("with the least HARM; of several the one with the fewest DOORS, then the least as a number");
        roads(0, 1, 2, 3);
        due(0, "door", 2, 3);
        due(1, "door", 1, 2);
        due(2, "door", 0, 1);
        due(1, "least", 1, 8, 0);
        due(0, "work", 2, 3, 2);
        due(2, "least", 1, 8, 0);
        due(0, "least", 1, 8, 1);
        due(1, "work", 1, 2, 2);
        due(4, "least", 1, 8, 0);
        due(2, "work", 0, 1, 2);
        due(1, "least", 1, 8, 0);
        due(2, "least", 1, 8, 1);
        due(3, "work", 2, 3, 1);
        due(2, "least", 1, 8, 0);
        edge("the one with the fewest DOORS: ahead of the least as a number");
        roads(0, 1, 3, 4);
        roads(0, 2, 3);
        due(0, "door", 0, 1);
        due(1, "door", 0, 2);
        due(2, "door", 3, 4);
        due(4, "least", 1, 16, 0);
        due(0, "work", 3, 4, 1);
        due(3, "least", 1, 16, 0);
        due(0, "least", 1, 16, 1);
        due(1, "work", 0, 3, 1);
        due(4, "least", 1, 16, 0);
        due(1, "least", 1, 16, 1);
    }

    private static void leastRefused() {
        edge("OUTSIDE: machines, others, what.");
        due(OUTSIDE, "least", NO_MACHINES, new int[] {0, 1, 1023}, new int[] {0, 1, 2});
        due(OUTSIDE, "least", new int[] {0, 1, 1023}, NO_MACHINES, new int[] {0, 1, 2});
        due(OUTSIDE, "least", 1, 1, 0);
        due(OUTSIDE, "least", 1023, new int[] {1, 512, 1023}, 0);
        due(OUTSIDE, "least", 513, 512, 0);
        due(OUTSIDE, "least", 1, 2, NOT_0_OR_1);
        roads(0, 1);
        due(OUTSIDE, "least", 1, 2, NOT_0_OR_1);
        due(OUTSIDE, "least", 1, 3, new int[] {0, 1});
    }

    private static void may() {
        edge("each MAY look at some MACHINES' TALKS (from them; none at first) till a TICK");
        due(NONE, "may", new int[] {0, 3}, new int[] {0, 9}, -1);
        edge("till a TICK (-1: not any more): till when it might (NONE: not)");
        due(NONE, "may", 0, 0, 0);
        due(0, "may", 0, 0, 999);
        due(999, "may", 0, 0, -1);
        due(NONE, "may", 0, 0, -1);
        due(NONE, "may", 3, 9, 998);
        due(998, "may", 3, 9, 0);
        due(NONE, "may", 3, 8, 1);
        due(NONE, "may", 2, 9, 1);
        edge("KEEPERS 0 .. 3: UNKNOWN; OUTSIDE.");
        due(NONE, "may", 0, 0, 5);
        due(UNKNOWN, "may", NO_KEEPER, new int[] {0, 10}, new int[] {-2, -1, 0, 1000});
        due(UNKNOWN, "may", new int[] {0, 3}, NO_MACHINE, new int[] {-2, -1, 0, 1000});
        due(OUTSIDE, "may", new int[] {0, 3}, new int[] {0, 9}, new int[] {-2, NONE, 1000, LEAST, GREATEST});
        due(5, "may", 0, 0, 5);
    }

    private static void look() {
        edge("UNKNOWN: KEEPER, TALK; OUTSIDE: tick; STATE: it is SEALED; FULL.");
        due(UNKNOWN, "look", new int[] {0, 3}, new int[] {-1, 0, 7, LEAST, GREATEST}, new int[] {0, 1000});
        due(0, "talk", 0, 0, 1);
        due(1, "talk", 1, 0, 1);
        due(2, "talk", 2, 0, 1);
        for (int full = 0; full < 2; full++) {
            due(UNKNOWN, "look", NO_KEEPER, new int[] {0, 1, 3}, new int[] {0, 1000});
            due(UNKNOWN, "look", new int[] {0, 3}, new int[] {-1, 3, 8, LEAST, GREATEST}, new int[] {0, 1000});
            due(OUTSIDE, "look", new int[] {0, 3}, new int[] {0, 1, 2}, NO_TICK);
            due(STATE, "look", new int[] {0, 3}, new int[] {1, 2}, new int[] {0, 999});
            for (int k = 0; k < 60 && full == 0; k++) {
                due(k, "many", 7);
                due(0, "look", k % 4, 0, 0);
            }
        }
        due(60, "many", 7);
        due(FULL, "look", new int[] {0, 3}, 0, new int[] {0, 999});
    }

    private static void lookMay() {
        edge("A LOOK at a TALK at a TICK: 1, it is kept; 0: it MAY not, that is kept, too");
        due(0, "talk", 0, 0, 9);
        due(1, "talk", 0, 9, 0);
        due(0, "look", 0, 0, 0);
        due(NONE, "may", 0, 0, 0);
        due(1, "look", 0, 0, 0);
        due(0, "look", 0, 0, 1);
        due(0, "may", 0, 0, 999);
        due(1, "look", 0, 0, 999);
        due(1, "look", 0, 0, 0);
        due(0, "look", 0, 1, 0);
        due(0, "look", 1, 0, 0);
        due(999, "may", 0, 0, -1);
        due(0, "look", 0, 0, 0);
        due(NONE, "may", 3, 9, 500);
        due(1, "look", 3, 1, 500);
        due(0, "look", 3, 1, 501);
        due(10, "many", 7);
        due(7, "looks", 0, 0);
        due(4, "looks", 0, 1);
        edge("SEALED: STATE, nothing is kept.");
        due(0, "talk", 1, 0, 9);
        due(1, "talk", 2, 0, 9);
        due(NONE, "may", 0, 0, 999);
        due(STATE, "look", new int[] {0, 1}, new int[] {0, 1}, new int[] {0, 999});
        due(0, "many", 7);
        due(0, "looks", 0, new int[] {0, 1});
    }

    private static void lookKept() {
        edge("60 are kept: by all KEEPERS together, those that it MAY and those that it MAY not");
        due(0, "talk", 0, 0, 1);
        due(NONE, "may", 0, 0, 999);
        for (int k = 0; k < 59; k++) {
            due(k < 30 ? 1 : 0, "look", k < 30 ? 0 : 3, 0, 999);
        }
        due(1, "look", 0, 0, 0);
        due(FULL, "look", new int[] {0, 1, 2, 3}, 0, 0);
        due(60, "many", 7);
        due(31, "looks", 0, 0);
        due(0, "looks", 0, 1);
        due(29, "looks", 3, new int[] {0, 1});
        due(0, "looks", 1, new int[] {0, 1});
        edge("60 are kept: of one KEEPER alone");
        due(0, "talk", 0, 0, 1);
        for (int k = 0; k < 60; k++) {
            due(0, "look", 3, 0, k);
        }
        due(FULL, "look", new int[] {0, 3}, 0, 0);
        due(60, "looks", 3, new int[] {0, 1});
    }

    private static void looks() {
        edge("How many LOOKS of a KEEPER are kept (what 0), how many of them it MAY not (1). UNKNOWN; OUTSIDE.");
        due(0, "looks", new int[] {0, 1, 2, 3}, new int[] {0, 1});
        due(UNKNOWN, "looks", NO_KEEPER, new int[] {-1, 0, 1, 2});
        due(OUTSIDE, "looks", new int[] {0, 3}, NOT_0_OR_1);
        due(0, "talk", 0, 0, 1);
        due(0, "look", 2, 0, 5);
        due(NONE, "may", 2, 0, 5);
        due(1, "look", 2, 0, 5);
        due(5, "may", 2, 0, -1);
        due(2, "looks", 2, 0);
        due(1, "looks", 2, 1);
        due(0, "looks", new int[] {0, 1, 3}, new int[] {0, 1});
    }
}
