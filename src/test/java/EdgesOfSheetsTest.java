/** Boundary cases of section 6, of promises 39 to 49 and of the terms, a sentence each. */
public final class EdgesOfSheetsTest extends Edge {
    public static void main(String[] args) {
        sheet();
        sheetOrder();
        lose();
        setCells();
        setCut();
        cell();
        copyEnds();
        copyFaults();
        copySame();
        tell();
        call();
        as();
        trace();
        fault();
        many();
        manyCalls();
        end();
    }

    private static void sheet() {
        edge("SHEETS 0 .. 3 have nothing (at first)");
        due(NULL, "set", new int[] {0, 1, 2, 3}, 0, 0);
        lost(NULL, "cell", new int[] {0, 1, 2, 3}, 0, new int[] {0, 1, 2});
        due(0, "lose", new int[] {0, 1, 2, 3});
        edge("or a row of 0 .. 60 numbers (0 at first) of a LANE");
        for (int lane = 0; lane < 3; lane++) {
            due(1, "sheet", 0, lane, 60);
            due(0, "cell", 0, new int[] {0, 30, 59}, lane);
            lost(INDEX, "cell", 0, new int[] {-1, 60}, lane);
            due(1, "sheet", 3, lane, 0);
            lost(INDEX, "cell", 3, new int[] {-1, 0, 1, 60}, lane);
            due(INDEX, "set", 3, new int[] {-1, 0, 1}, 5);
            due(1, "sheet", 3, lane, 1);
            due(0, "cell", 3, 0, lane);
            lost(INDEX, "cell", 3, 1, lane);
            due(1, "sheet", 3, lane, 59);
            due(0, "cell", 3, 58, lane);
            lost(INDEX, "cell", 3, 59, lane);
        }
        edge("A SHEET gets a new row: nothing of the old one stays");
        fill(0, 2, 7, 8, 9);
        due(1, "sheet", 0, 2, 2);
        due(0, "cell", 0, new int[] {0, 1}, 2);
        lost(INDEX, "cell", 0, 2, 2);
        due(1, "sheet", 0, 2, 3);
        due(0, "cell", 0, 2, 2);
        due(1, "set", 0, 2, 9);
        due(1, "sheet", 0, 1, 3);
        due(0, "cell", 0, 2, 1);
        lost(CAST, "cell", 0, 2, 2);
        due(1, "set", 0, 2, 9);
        due(1, "lose", 0);
        due(1, "sheet", 0, 1, 3);
        due(0, "cell", 0, 2, 1);
    }

    private static void sheetOrder() {
        edge("UNKNOWN; OUTSIDE: lane, n above 60; SIZE.");
        fill(0, 1, 5);
        due(UNKNOWN, "sheet", NO_SHEET, new int[] {0, 3}, new int[] {-1, 0, 61});
        due(OUTSIDE, "sheet", new int[] {0, 3}, NO_LANE, new int[] {-1, 0, 60, 61});
        due(OUTSIDE, "sheet", new int[] {0, 3}, new int[] {0, 1, 2}, new int[] {61, 62, GREATEST});
        due(SIZE, "sheet", new int[] {0, 3}, new int[] {0, 1, 2}, new int[] {-1, LEAST});
        due(5, "cell", 0, 0, 1);
        due(0, "lose", 3);
    }

    private static void lose() {
        edge("A SHEET has nothing: 1; 0: it had nothing. UNKNOWN.");
        due(UNKNOWN, "lose", NO_SHEET);
        for (int k = 0; k < 4; k += 3) {
            due(0, "lose", k);
            due(1, "sheet", k, 0, 0);
            due(1, "lose", k);
            due(0, "lose", k);
            due(1, "sheet", k, 2, 60);
            due(1, "lose", k);
            due(NULL, "set", k, 0, 0);
        }
        due(1, "sheet", 1, 0, 1);
        due(0, "lose", new int[] {0, 2, 3});
        due(UNKNOWN, "lose", NO_SHEET);
        due(0, "cell", 1, 0, 0);
    }

    private static void setCells() {
        edge("Cell i of a SHEET becomes v: 1. UNKNOWN; NULL; INDEX.");
        due(UNKNOWN, "set", NO_SHEET, new int[] {-1, 0}, 0);
        due(NULL, "set", new int[] {0, 3}, new int[] {-1, 0, 60, LEAST, GREATEST}, 0);
        due(1, "sheet", 0, 2, 60);
        due(1, "set", 0, 0, LEAST);
        due(1, "set", 0, 59, GREATEST);
        due(INDEX, "set", 0, new int[] {-1, 60, LEAST, GREATEST}, 1);
        due(LEAST, "cell", 0, 0, 2);
        due(GREATEST, "cell", 0, 59, 2);
        due(0, "cell", 0, new int[] {1, 58}, 2);
        due(1, "sheet", 3, 0, 2);
        due(1, "set", 3, 1, 1);
        due(INDEX, "set", 3, new int[] {-1, 2, LEAST, GREATEST}, 1);
        due(1, "lose", 0);
        due(NULL, "set", 0, 0, 1);
        due(UNKNOWN, "set", NO_SHEET, new int[] {-1, 0}, 0);
    }

    private static void setCut() {
        edge("what comes to a cell of it is cut to its LANE: 0 bytes, 1 shorts, 2 ints");
        for (int lane = 0; lane < 3; lane++) {
            due(1, "sheet", lane, lane, 1);
        }
        int[] values = {0, 1, -1, 127, 128, -128, -129, 255, 256, 257, -256, 32767, 32768, -32768, -32769, 65535, 65536,
            65537, GREATEST, LEAST, GREATEST - 128, LEAST + 127};
        int[] bytes = {0, 1, -1, 127, -128, -128, 127, -1, 0, 1, 0, -1, 0, 0, -1, -1, 0, 1, -1, 0, 127, 127};
        int[] shorts = {0, 1, -1, 127, 128, -128, -129, 255, 256, 257, -256, 32767, -32768, -32768, 32767, -1, 0, 1, -1,
            0, -129, 127};
        for (int k = 0; k < values.length; k++) {
            due(1, "set", new int[] {0, 1, 2}, 0, values[k]);
            due(bytes[k], "cell", 0, 0, 0);
            due(shorts[k], "cell", 1, 0, 1);
            due(values[k], "cell", 2, 0, 2);
        }
    }

    private static void cell() {
        edge("LOST: UNKNOWN, OUTSIDE: lane; FAULTS CAST (nothing is no CAST), NULL, INDEX.");
        fill(0, 0, 5, 6);
        fill(1, 1, 5, 6);
        fill(2, 2, 5, 6);
        lost(UNKNOWN, "cell", NO_SHEET, new int[] {-1, 0}, new int[] {0, 3});
        lost(OUTSIDE, "cell", new int[] {0, 1, 2, 3}, new int[] {-1, 0, 2}, NO_LANE);
        for (int lane = 0; lane < 3; lane++) {
            int[] others = {(lane + 1) % 3, (lane + 2) % 3};
            lost(CAST, "cell", lane, new int[] {-1, 0, 1, 2, LEAST, GREATEST}, others);
            lost(INDEX, "cell", lane, new int[] {-1, 2, 60, LEAST, GREATEST}, lane);
            due(5, "cell", lane, 0, lane);
            due(6, "cell", lane, 1, lane);
        }
        lost(NULL, "cell", 3, new int[] {-1, 0, 60}, new int[] {0, 1, 2});
        due(1, "lose", 0);
        lost(NULL, "cell", 0, new int[] {-1, 0, 60}, new int[] {0, 1, 2});
        due(1, "sheet", 0, 1, 0);
        lost(CAST, "cell", 0, 0, new int[] {0, 2});
        lost(INDEX, "cell", 0, 0, 1);
        edge("a cell may hold what a refusal, a FAULT, LOST's lower half is elsewhere");
        fill(0, 2, UNKNOWN, NULL, SIZE, LEAST);
        due(UNKNOWN, "cell", 0, 0, 2);
        due(NULL, "cell", 0, 1, 2);
        due(SIZE, "cell", 0, 2, 2);
        due(LEAST, "cell", 0, 3, 2);
    }

    private static void copyEnds() {
        edge("n cells of a SHEET from i on go to another one from j on, as they were: n");
        fill(0, 1, 1, 2, 3, 4, 5);
        fill(1, 1, 9, 9, 9);
        due(0, "copy", 0, new int[] {0, 5}, 1, new int[] {0, 3}, 0);
        due(9, "cell", 1, new int[] {0, 1, 2}, 1);
        due(1, "copy", 0, 4, 1, 2, 1);
        due(5, "cell", 1, 2, 1);
        due(9, "cell", 1, new int[] {0, 1}, 1);
        due(3, "copy", 0, 2, 1, 0, 3);
        due(3, "cell", 1, 0, 1);
        due(5, "cell", 1, 2, 1);
        due(1, "cell", 0, 0, 1);
        due(1, "sheet", 2, 1, 0);
        due(0, "copy", 2, 0, 2, 0, 0);
        due(0, "copy", 2, 0, 0, 5, 0);
        due(INDEX, "copy", 2, 0, 0, 0, 1);
        due(INDEX, "copy", 0, 0, 2, 0, 1);
        edge("n cells: all 60, and the numbers at both ends of each LANE");
        int[] least = {-128, -32768, LEAST};
        int[] greatest = {127, 32767, GREATEST};
        for (int lane = 0; lane < 3; lane++) {
            due(1, "sheet", 0, lane, 60);
            due(1, "sheet", 3, lane, 60);
            due(1, "set", 0, 0, least[lane]);
            due(1, "set", 0, 59, greatest[lane]);
            due(60, "copy", 0, 0, 3, 0, 60);
            due(least[lane], "cell", 3, 0, lane);
            due(greatest[lane], "cell", 3, 59, lane);
        }
    }

    private static void copyFaults() {
        edge("UNKNOWN; FAULTS NULL (the first, the other), CAST (unlike LANES), INDEX: i, j, n below 0 or beyond.");
        due(1, "sheet", 0, 1, 5);
        due(1, "sheet", 1, 1, 3);
        due(1, "sheet", 2, 2, 3);
        due(UNKNOWN, "copy", NO_SHEET, new int[] {-1, 0}, new int[] {0, 3}, -1, -1);
        due(UNKNOWN, "copy", new int[] {0, 3}, new int[] {-1, 0}, NO_SHEET, -1, -1);
        due(NULL, "copy", 3, new int[] {-1, 0}, new int[] {0, 2, 3}, 0, new int[] {-1, 0, 1});
        due(NULL, "copy", new int[] {0, 2}, new int[] {-1, 0}, 3, 0, new int[] {-1, 0, 1});
        due(CAST, "copy", 0, new int[] {-1, 0, 9}, 2, new int[] {-1, 0, 9}, new int[] {-1, 0, 1});
        due(CAST, "copy", 2, 0, new int[] {0, 1}, 0, 0);
        due(INDEX, "copy", 0, new int[] {-1, 6, LEAST, GREATEST}, 1, 0, new int[] {0, 1});
        due(INDEX, "copy", 0, 0, 1, new int[] {-1, 4, LEAST, GREATEST}, new int[] {0, 1});
        due(INDEX, "copy", 0, new int[] {0, 5}, 1, new int[] {0, 3}, new int[] {-1, LEAST, GREATEST});
        due(INDEX, "copy", 0, 5, 1, 0, 1);
        due(INDEX, "copy", 0, 0, 1, 3, 1);
        due(INDEX, "copy", 0, 0, 1, 0, new int[] {4, 5, 6});
        due(INDEX, "copy", 1, 0, 0, 0, new int[] {4, 5, 6});
        due(INDEX, "copy", 0, 3, 1, 0, 3);
        due(INDEX, "copy", 1, 0, 0, 3, 3);
        due(INDEX, "copy", 0, 1, 1, 1, GREATEST);
        due(INDEX, "copy", 0, GREATEST, 1, GREATEST, GREATEST);
        due(3, "copy", 0, 2, 1, 0, 3);
        due(3, "copy", 1, 0, 0, 2, 3);
        due(1, "lose", 0);
        due(NULL, "copy", 0, 0, 0, 0, 0);
    }

    private static void copySame() {
        edge("perhaps the same .. as they were");
        fill(0, 2, 1, 2, 3, 4, 5);
        due(5, "copy", 0, 0, 0, 0, 5);
        cells(1, 2, 3, 4, 5);
        due(4, "copy", 0, 0, 0, 1, 4);
        cells(1, 1, 2, 3, 4);
        due(4, "copy", 0, 1, 0, 0, 4);
        cells(1, 2, 3, 4, 4);
        due(3, "copy", 0, 0, 0, 2, 3);
        cells(1, 2, 1, 2, 3);
        due(0, "copy", 0, 5, 0, 5, 0);
        due(1, "copy", 0, 4, 0, 0, 1);
        cells(3, 2, 1, 2, 3);
    }

    private static void cells(int... values) {
        for (int i = 0; i < values.length; i++) {
            due(values[i], "cell", 0, i, 2);
        }
    }

    /** Talks 0, 1, 2 of the kinds 0, 1, 2, with so many bytes each. */
    private static void talks(int bytes) {
        watched(0, 1);
        for (int t = 0; t < 3; t++) {
            due(t, "talk", t, 0, 1);
            if (bytes > 0) {
                piece(1, t, 0, 0, ofLength(bytes, 1));
            }
        }
    }

    private static void tell() {
        for (int length : new int[] {0, 1, 3, 4, 5, 20}) {
            edge("TALK (1): its LENGTH. SEALED (2): what TALK's gives, and 1000. CARRIED (3): what ..");
            talks(length);
            int carried = Math.max(length - 4, 0);
            due(length, "tell", 0);
            due(1, "trace");
            due(length + 1000, "tell", 1);
            due((1 * 31 + 2) * 31 + 1, "trace");
            due(carried + 1000 + carried, "tell", 2);
            due(((((1 * 31 + 2) * 31 + 1) * 31 + 3) * 31 + 2) * 31 * 31 + 31 + 1, "trace");
        }
        edge("TELLING of a TALK. UNKNOWN.");
        due(UNKNOWN, "tell", new int[] {-1, 0, LEAST, GREATEST});
        talks(1);
        due(UNKNOWN, "tell", new int[] {-1, 3, 8, LEAST, GREATEST});
        due(0, "trace");
        edge("its LENGTH: the greatest");
        talks(0);
        for (int t = 0; t < 3; t++) {
            piece(1, t, 59, 0, ofLength(20, 1));
        }
        due(79, "tell", 0);
        due(1079, "tell", 1);
        due(1150, "tell", 2);
    }

    private static void call() {
        edge("CALLED by a lent body (4): its number; CARRIED ones have their own (5): 77.");
        due(UNKNOWN, "call", new int[] {-1, 0, LEAST, GREATEST});
        int trace = 0;
        for (int t = 0; t < 8; t++) {
            due(t, "talk", t % 3, 0, 1);
            due(t % 3 == 2 ? 77 : t, "call", t);
            trace = trace * 31 + (t % 3 == 2 ? 5 : 4);
            due(trace, "trace");
        }
        due(UNKNOWN, "call", new int[] {-1, 8, LEAST, GREATEST});
        due(trace, "trace");
    }

    private static void as() {
        edge("A TALK, taken as one of a kind: 1. UNKNOWN; OUTSIDE; CAST: it is none.");
        due(UNKNOWN, "as", new int[] {-1, 0, LEAST, GREATEST}, new int[] {0, 3});
        talks(0);
        for (int t = 0; t < 3; t++) {
            for (int kind = 0; kind < 3; kind++) {
                due(kind <= t ? 1 : CAST, "as", t, kind);
            }
        }
        due(UNKNOWN, "as", new int[] {-1, 3, 8, LEAST, GREATEST}, new int[] {-1, 0, 2, 3});
        due(OUTSIDE, "as", new int[] {0, 1, 2}, new int[] {-1, 3, LEAST, GREATEST});
    }

    private static void trace() {
        edge("an int that wraps, 0 at first, becomes 31 times it and the number");
        due(0, "trace");
        talks(0);
        due(0, "trace");
        int trace = 0;
        for (int k = 0; k < 30; k++) {
            due(0, "call", 0);
            trace = 31 * trace + 4;
            due(trace, "trace");
        }
        due(0, "tell", 0);
        due(31 * trace + 1, "trace");
    }

    private static void fault() {
        edge("0: it came to none, or was refused (0 ahead of any)");
        due(0, "fault");
        due(NULL, "set", 0, 0, 0);
        due(1, "fault");
        due(UNKNOWN, "set", 4, 0, 0);
        due(0, "fault");
        due(SIZE, "sheet", 0, 0, -1);
        due(4, "fault");
        due(OUTSIDE, "sheet", 0, 0, 61);
        due(0, "fault");
        due(1, "sheet", 0, 0, 1);
        lost(CAST, "cell", 0, 0, 1);
        due(2, "fault");
        due(0, "cell", 0, 0, 0);
        due(0, "fault");
        lost(INDEX, "cell", 0, 1, 0);
        due(3, "fault");
        lost(OUTSIDE, "cell", 0, 1, 3);
        due(0, "fault");
        edge("The FAULT of the latest call that names one: others leave it");
        talks(0);
        due(CAST, "as", 0, 2);
        due(1, "road", 0, 5, true);
        due(UNKNOWN, "road", 10, 0, true);
        due(OUTSIDE, "scan", -1);
        lost(UNKNOWN, "nothing", 0, 0);
        due(1, "odds", 0, 1, 0);
        due(0, "lose", 0);
        due(UNKNOWN, "lose", 4);
        due(0, "tell", 0);
        due(UNKNOWN, "call", 9);
        due(OUTSIDE, "many", 8);
        due(STATE, "look", 0, 1, 0);
        due(2, "fault");
        due(2, "fault");
        due(1, "as", 2, 2);
        due(0, "fault");
        edge("STATE, FULL, a TEXT's fault are none of the machine's");
        due(0, "talk", 0, 0, 1);
        due(1, "sheet", 0, 0, 1);
        due(INDEX, "set", 0, 1, 0);
        due(STATE, "piece", 0, 0, 0, 0, 0, 0, 1);
        due(0, "fault");
        for (int r = 0; r < 8; r++) {
            due(r, "row", 0, 0, 0, 1);
        }
        due(INDEX, "row", 0, 0, 1, 1);
        due(FULL, "row", 0, 0, 0, 1);
        due(0, "fault");
        due(INDEX, "chain", 0, 0, 2, 0);
        due(-100, "chain", 0, 0, 0, 1);
        due(0, "fault");
    }

    private static void many() {
        edge("How many: 0 ROADS, 1 DOORS, 2 TALKS, 3 ROWS, 4 FINDINGS, 5 STATES, 6 WORKS, 7 LOOKS. OUTSIDE.");
        due(OUTSIDE, "many", new int[] {-1, 8, LEAST, GREATEST});
        int[] first = {0, 0, 0, 0, 0, 1, 0, 0};
        for (int what = 0; what < 8; what++) {
            due(first[what], "many", what);
        }
        watched(0, 1);
        due(1, "many", 0);
        due(0, "door", 0, 1);
        due(1, "many", 1);
        due(0, "talk", 0, 0, 1);
        due(1, "many", 2);
        row(0, 1);
        due(1, "many", 3);
        piece(1, 0, 0, 0, 1);
        due(1, "scan", 0);
        due(1, "many", 4);
        grow(1, 0);
        due(2, "many", 5);
        due(0, "work", 0, 1, 1);
        due(1, "many", 6);
        due(0, "look", 0, 0, 0);
        due(1, "many", 7);
        due(1, "road", 0, 1, false);
        due(0, "many", 0);
        due(1, "many", new int[] {1, 2, 3, 4, 6, 7});
        due(OUTSIDE, "many", new int[] {-1, 8, LEAST, GREATEST});
    }

    /** The calls of this case are counted, so it asks the object itself and nothing beside. */
    private static void manyCalls() {
        WireWatch x = new WireWatch();
        Check c = new Check();
        c.due("talk", x.talk(0, 0, 1), 0);
        int trace = 0;
        for (int calls = 2; calls <= 511; calls++) {
            c.due("call " + calls, x.call(0), 0);
            trace = 31 * trace + 4;
        }
        c.due("An object is used for at most 512 calls: the 512th", x.trace(), trace);
        c.end();
    }
}
