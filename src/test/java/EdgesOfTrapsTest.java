/** Boundary cases of section 4 and of promises 26 to 31, a sentence each. */
public final class EdgesOfTrapsTest extends Edge {
    private static final int[] NO_SIGN = {-1, 4, LEAST, GREATEST};

    public static void main(String[] args) {
        bar();
        growEnds();
        growRoom();
        growBarred();
        growFaults();
        growOrder();
        goneEnds();
        goneAtTheEnd();
        goneFaults();
        goneBarred();
        answer();
        next();
        rows();
        end();
    }

    private static void bar() {
        edge("Two SIGNS, one behind the other, are BARRED, or not: 1; 0: it was so. OUTSIDE.");
        for (int first = 0; first < 4; first++) {
            for (int second = 0; second < 4; second++) {
                due(0, "bar", first, second, false);
                due(1, "bar", first, second, true);
                due(0, "bar", first, second, true);
            }
        }
        due(1, "bar", 3, 0, false);
        due(0, "bar", 3, 0, false);
        due(0, "bar", 0, 3, true);
        due(OUTSIDE, "bar", NO_SIGN, new int[] {0, 3, 4}, YES_AND_NO);
        due(OUTSIDE, "bar", new int[] {0, 3}, NO_SIGN, YES_AND_NO);
    }

    private static void growEnds() {
        edge("STATES 0 .. 15 (0 alone at first), from each by a SIGN (0 .. 3) to another one, or none");
        due(1, "many", 5);
        due(NONE, "next", 0, new int[] {0, 1, 2, 3});
        due(UNKNOWN, "next", new int[] {1, 15}, 0);
        grow(1, 0);
        grow(2, 3);
        due(1, "next", 0, 0);
        due(2, "next", 0, 3);
        due(NONE, "next", new int[] {1, 2}, new int[] {0, 3});
        edge("GROWN by a row of 1 .. 10 SIGNS");
        fill(0, 1, 0, 1, 2, 3, 0, 1, 2, 3, 0, 1, 2);
        due(OUTSIDE, "grow", 0, 1, 0, new int[] {0, 11});
        due(OUTSIDE, "grow", 0, 1, 11, 0);
        due(1, "grow", 0, 1, 0, 1);
        due(10, "grow", 0, 1, 0, 10);
        due(11, "many", 5);
        due(10, "grow", 0, 1, 0, 10);
        due(1, "grow", 0, 1, 0, 1);
        due(OUTSIDE, "grow", 0, 1, 0, new int[] {0, 11});
        edge("a SIGN (0 .. 3)");
        fill(0, 2, 0, 3, -1, 3, 0, 4, LEAST, GREATEST);
        due(2, "grow", 0, 2, 0, 2);
        due(OUTSIDE, "grow", 0, 2, new int[] {2, 5, 6, 7}, 1);
        due(OUTSIDE, "grow", 0, 2, 0, 3);
        due(OUTSIDE, "grow", 0, 2, 3, 3);
        due(3, "many", 5);
        edge("a new STATE (numbered as they come) where there is none");
        grow(3, 1, 1, 1);
        grow(4, 1, 2);
        grow(5, 1, 1, 3);
        grow(2, 1, 1);
        due(6, "many", 5);
        due(3, "next", 2, 1);
        due(5, "next", 2, 3);
        due(4, "next", 1, 2);
    }

    private static void growRoom() {
        edge("or more STATES would be there than 16 (FULL)");
        grow(10, 0, 0, 0, 0, 0, 0, 0, 0, 0, 0);
        grow(FULL, 1, 1, 1, 1, 1, 1);
        grow(FULL, 0, 1, 1, 1, 1, 1, 1);
        grow(15, 1, 1, 1, 1, 1);
        due(16, "many", 5);
        grow(FULL, 2);
        grow(FULL, 1, 1, 1, 1, 1, 1);
        grow(15, 1, 1, 1, 1, 1);
        grow(10, 0, 0, 0, 0, 0, 0, 0, 0, 0, 0);
        due(NONE, "next", 15, new int[] {0, 1, 2, 3});
        edge("nothing, if more STATES would be there: none of its new ones, too");
        grow(10, 0, 0, 0, 0, 0, 0, 0, 0, 0, 0);
        grow(14, 1, 1, 1, 1);
        grow(FULL, 2, 2);
        due(15, "many", 5);
        due(NONE, "next", 0, 2);
        grow(15, 3);
        due(15, "next", 0, 3);
    }

    private static void growBarred() {
        edge("nothing, if the row has a BARRED pair (STATE)");
        due(1, "bar", 0, 1, true);
        grow(STATE, 0, 1);
        grow(STATE, 0, 1, 2);
        grow(STATE, 2, 0, 1);
        grow(STATE, 2, 2, 2, 2, 2, 2, 2, 2, 0, 1);
        due(1, "many", 5);
        grow(1, 0);
        grow(2, 1);
        grow(3, 1, 0);
        due(1, "bar", 3, 3, true);
        grow(STATE, 3, 3);
        grow(4, 3);
        edge("a BARRED pair (STATE) ahead of FULL");
        grow(10, 0, 0, 0, 0, 0, 0, 0, 0, 0, 0);
        grow(15, 1, 1, 1, 1, 1);
        due(1, "bar", 2, 2, true);
        due(1, "bar", 0, 0, true);
        grow(STATE, 2, 2);
        grow(STATE, 2, 3, 2, 2);
        grow(STATE, 0, 0);
        grow(FULL, 2);
        grow(1, 0);
        edge("Where a pair is BARRED all that is GROWN stays");
        grow(3, 0, 1, 2);
        due(1, "bar", 0, 1, true);
        due(4, "many", 5);
        due(2, "next", 1, 1);
        due(3, "next", 2, 2);
        due(0, "answer", 3, 5);
        due(1, "bar", 0, 1, false);
        grow(3, 0, 1, 2);
        gone(3, 0, 1, 2);
    }

    private static void growFaults() {
        edge("The TRAP is GROWN by n cells of a SHEET from i on: CAST; NULL; SIZE; INDEX");
        due(NULL, "grow", new int[] {0, 1, 2, 3}, new int[] {0, 1, 2}, 0, 1);
        for (int lane = 0; lane < 3; lane++) {
            due(1, "sheet", lane, lane, 5);
            due(CAST, "grow", lane, (lane + 1) % 3, 0, 1);
            due(CAST, "grow", lane, (lane + 2) % 3, 0, 1);
            due(SIZE, "grow", lane, lane, 0, new int[] {-1, LEAST});
            due(INDEX, "grow", lane, lane, new int[] {-1, 5, 6, LEAST, GREATEST}, 1);
            due(INDEX, "grow", lane, lane, 0, new int[] {6, 10, 11, GREATEST});
            due(INDEX, "grow", lane, lane, 4, new int[] {2, GREATEST});
            due(INDEX, "grow", lane, lane, new int[] {-1, 6, LEAST, GREATEST}, 0);
            due(OUTSIDE, "grow", lane, lane, new int[] {0, 5}, 0);
            due(5, "grow", lane, lane, 0, 5);
            due(1, "grow", lane, lane, 4, 1);
        }
        due(1, "sheet", 3, 0, 0);
        due(OUTSIDE, "grow", 3, 0, 0, 0);
        due(INDEX, "grow", 3, 0, 0, 1);
        due(INDEX, "grow", 3, 0, new int[] {-1, 1}, 0);
        due(1, "lose", 0);
        due(NULL, "grow", 0, new int[] {0, 1, 2}, 0, 1);
    }

    private static void growOrder() {
        edge("UNKNOWN; OUTSIDE: lane; CAST; NULL; SIZE; INDEX; OUTSIDE: n is not 1 .. 10, a SIGN; STATE; FULL.");
        grow(10, 0, 0, 0, 0, 0, 0, 0, 0, 0, 0);
        due(1, "bar", 3, 3, true);
        fill(0, 1, 3, 3, 2, 2, 2, 2, 2, 2, 2, 2, 2, 2, 4);
        due(UNKNOWN, "grow", NO_SHEET, 3, 99, -1);
        due(OUTSIDE, "grow", new int[] {0, 1}, NO_LANE, 99, -1);
        due(CAST, "grow", 0, new int[] {0, 2}, 99, -1);
        due(NULL, "grow", 1, new int[] {0, 1, 2}, 99, -1);
        due(SIZE, "grow", 0, 1, 99, -1);
        due(INDEX, "grow", 0, 1, 99, 11);
        due(INDEX, "grow", 0, 1, 12, 2);
        due(OUTSIDE, "grow", 0, 1, 0, new int[] {0, 11});
        due(OUTSIDE, "grow", 0, 1, 4, 9);
        due(STATE, "grow", 0, 1, 0, 10);
        due(FULL, "grow", 0, 1, 1, 10);
        due(FULL, "grow", 0, 1, 2, 6);
        due(15, "grow", 0, 1, 2, 5);
    }

    private static void goneEnds() {
        edge("how many SIGNS of a row can be gone along from STATE 0, one behind the other");
        gone(0);
        gone(0, 0);
        gone(0, 0, 1, 2, 3, 0, 1, 2, 3, 0, 1);
        grow(10, 0, 1, 2, 3, 0, 1, 2, 3, 0, 1);
        gone(10, 0, 1, 2, 3, 0, 1, 2, 3, 0, 1);
        gone(9, 0, 1, 2, 3, 0, 1, 2, 3, 0, 2);
        gone(1, 0, 0, 1, 2);
        gone(0, 1, 0, 1);
        gone(1, 0);
        edge("GONE along n such cells: n is not 0 .. 10, a SIGN");
        fill(0, 1, 0, 0, 0, 0, 0, 0, 0, 0, 0, 0, 0, -1, 4, Short.MAX_VALUE, Short.MIN_VALUE);
        due(0, "gone", 0, 1, 0, new int[] {0, 1, 10});
        due(0, "gone", 0, 1, 15, 0);
        due(OUTSIDE, "gone", 0, 1, 0, new int[] {11, 15});
        due(OUTSIDE, "gone", 0, 1, new int[] {11, 12, 13, 14}, 1);
        due(OUTSIDE, "gone", 0, 1, 2, 10);
        due(0, "gone", 0, 1, 1, 10);
        due(10, "grow", 0, 1, 0, 10);
        due(10, "gone", 0, 1, 0, 10);
        due(OUTSIDE, "gone", 0, 1, 0, 11);
        due(OUTSIDE, "gone", 0, 1, 10, 2);
    }

    private static void goneAtTheEnd() {
        edge("n such cells: the last ones of the longest SHEET");
        due(1, "sheet", 0, 2, 60);
        due(10, "grow", 0, 2, 50, 10);
        due(10, "gone", 0, 2, 50, 10);
        due(1, "gone", 0, 2, 59, 1);
        due(0, "gone", 0, 2, 60, 0);
        due(INDEX, "grow", 0, 2, 51, 10);
        due(INDEX, "gone", 0, 2, 51, 10);
    }

    private static void goneFaults() {
        edge("UNKNOWN; OUTSIDE: lane; CAST; NULL; SIZE; INDEX; OUTSIDE: n is not 0 .. 10, a SIGN.");
        due(NULL, "gone", new int[] {0, 1, 2, 3}, new int[] {0, 1, 2}, new int[] {0, 99}, new int[] {-1, 0, 11});
        due(UNKNOWN, "gone", NO_SHEET, new int[] {0, 3}, 99, -1);
        due(OUTSIDE, "gone", 0, NO_LANE, 99, -1);
        for (int lane = 0; lane < 3; lane++) {
            due(1, "sheet", lane, lane, 11);
            due(1, "set", lane, 10, 4);
            due(CAST, "gone", lane, (lane + 1) % 3, 99, -1);
            due(CAST, "gone", lane, (lane + 2) % 3, 0, 0);
            due(OUTSIDE, "gone", lane, NO_LANE, 99, -1);
            due(SIZE, "gone", lane, lane, new int[] {0, 99}, new int[] {-1, LEAST});
            due(INDEX, "gone", lane, lane, new int[] {-1, 12, LEAST, GREATEST}, new int[] {0, 1, 11});
            due(INDEX, "gone", lane, lane, 0, new int[] {12, GREATEST});
            due(INDEX, "gone", lane, lane, 10, new int[] {2, GREATEST});
            due(OUTSIDE, "gone", lane, lane, 0, 11);
            due(OUTSIDE, "gone", lane, lane, 10, 1);
            due(0, "gone", lane, lane, new int[] {0, 11}, 0);
        }
        due(1, "sheet", 3, 0, 0);
        due(0, "gone", 3, 0, 0, 0);
        due(INDEX, "gone", 3, 0, 0, 1);
        due(INDEX, "gone", 3, 0, new int[] {-1, 1}, 0);
    }

    private static void goneBarred() {
        edge("but is gone along no more at such a pair");
        grow(4, 0, 1, 2, 3);
        grow(5, 1);
        grow(6, 1, 2);
        due(1, "bar", 0, 1, true);
        gone(1, 0, 1, 2, 3);
        gone(1, 0);
        gone(2, 1, 2);
        due(1, "bar", 2, 3, true);
        gone(1, 0, 1, 2, 3);
        due(1, "bar", 0, 1, false);
        gone(3, 0, 1, 2, 3);
        due(1, "bar", 1, 2, true);
        gone(2, 0, 1, 2, 3);
        gone(1, 1, 2);
        due(1, "bar", 1, 0, true);
        gone(2, 0, 1, 3);
        edge("Two SIGNS one behind the other can be BARRED: the first SIGN of a row is behind none");
        grow(1, 0);
        for (int first = 0; first < 4; first++) {
            due(1, "bar", first, 0, true);
        }
        gone(1, 0);
        due(1, "rows", 1);
    }

    private static void answer() {
        edge("an ANSWER each (0 .. 99; 0 at first)");
        due(0, "answer", 0, 99);
        due(99, "answer", 0, 0);
        due(0, "answer", 0, 1);
        due(UNKNOWN, "answer", new int[] {-1, 1, 15, 16, LEAST, GREATEST}, new int[] {0, 100});
        grow(10, 0, 0, 0, 0, 0, 0, 0, 0, 0, 0);
        due(UNKNOWN, "answer", 11, 5);
        grow(15, 1, 1, 1, 1, 1);
        due(0, "answer", 15, 98);
        due(98, "answer", 15, 99);
        due(0, "answer", 14, 5);
        due(UNKNOWN, "answer", new int[] {-1, 16, LEAST, GREATEST}, new int[] {-1, 0, 99, 100});
        due(OUTSIDE, "answer", new int[] {0, 15}, new int[] {-1, 100, LEAST, GREATEST});
        due(99, "answer", 15, 0);
        due(1, "answer", 0, 0);
    }

    private static void next() {
        edge("The STATE to which a SIGN leads; NONE. UNKNOWN: STATE; OUTSIDE.");
        due(NONE, "next", 0, new int[] {0, 3});
        due(UNKNOWN, "next", new int[] {-1, 1, 16, LEAST, GREATEST}, new int[] {0, 4});
        due(OUTSIDE, "next", 0, NO_SIGN);
        grow(10, 3, 0, 3, 0, 3, 0, 3, 0, 3, 0);
        grow(15, 0, 3, 0, 3, 0);
        due(1, "next", 0, 3);
        due(11, "next", 0, 0);
        due(15, "next", 14, 0);
        due(NONE, "next", 14, new int[] {1, 2, 3});
        due(NONE, "next", 15, new int[] {0, 1, 2, 3});
        due(UNKNOWN, "next", new int[] {-1, 16, LEAST, GREATEST}, new int[] {-1, 0, 3, 4});
        due(OUTSIDE, "next", new int[] {0, 15}, NO_SIGN);
    }

    private static void rows() {
        edge("ROWS of n (0 .. 20) SIGNS. OUTSIDE.");
        due(1, "rows", 0);
        due(0, "rows", new int[] {1, 20});
        due(OUTSIDE, "rows", new int[] {-1, 21, LEAST, GREATEST});
        grow(10, 0, 0, 0, 0, 0, 0, 0, 0, 0, 0);
        due(1, "rows", new int[] {0, 1, 9, 10});
        due(0, "rows", new int[] {11, 19, 20});
        for (int sign = 1; sign < 4; sign++) {
            grow(10 + sign, sign);
        }
        due(4, "rows", 1);
        due(1, "rows", 2);
        due(1, "bar", 0, 0, true);
        due(4, "rows", 1);
        due(0, "rows", new int[] {2, 3, 10});
        due(1, "rows", 0);
        due(OUTSIDE, "rows", new int[] {-1, 21, LEAST, GREATEST});
        edge("how many can be gone along wholly");
        grow(3, 0, 1, 2);
        grow(4, 0, 1, 3);
        grow(7, 1, 1, 2);
        due(1, "bar", 1, 2, true);
        due(2, "rows", 2);
        due(1, "rows", 3);
        due(1, "bar", 1, 1, true);
        due(1, "rows", 2);
        due(1, "rows", 3);
        due(1, "bar", 0, 1, true);
        due(0, "rows", new int[] {2, 3});
        due(2, "rows", 1);
    }
}
