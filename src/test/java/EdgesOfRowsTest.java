/** Boundary cases of section 2 and of promises 12 to 18, a sentence each. */
public final class EdgesOfRowsTest extends Edge {
    private static final int[] NO_ROW = {-1, 8, LEAST, GREATEST};
    private static final int[] NO_FINDING = {-1, 40, LEAST, GREATEST};

    public static void main(String[] args) {
        rowEnds();
        rowFaults();
        rowAtTheEnd();
        rowOrder();
        fitsWithinJoined();
        fitsRefused();
        scanEnds();
        scanRoom();
        scanFinds();
        finding();
        clear();
        nothing();
        textEnds();
        textRows();
        textCodes();
        chainFaults();
        chainOrder();
        chainSpans();
        chainLinks();
        end();
    }

    private static void rowEnds() {
        edge("ROWS, 8 ever, numbered as they come");
        fill(0, 0, 5);
        for (int r = 0; r < 8; r++) {
            due(r, "many", 3);
            due(r, "row", 0, 0, 0, 1);
        }
        due(8, "many", 3);
        due(FULL, "row", 0, 0, 0, 1);
        edge("1 to 6 cells: a byte, or -1 (any)");
        fill(0, 1, -1, 0, 127, -1, 0, 127, 0, -2, 128, Short.MIN_VALUE, Short.MAX_VALUE);
        due(0, "row", 0, 1, 0, 6);
        due(1, "row", 0, 1, 6, 1);
        due(2, "row", 0, 1, 0, 1);
        due(OUTSIDE, "row", 0, 1, 0, new int[] {0, 7, 8, 11});
        due(OUTSIDE, "row", 0, 1, 11, 0);
        due(OUTSIDE, "row", 0, 1, new int[] {7, 8, 9, 10}, 1);
        due(OUTSIDE, "row", 0, 1, 2, 6);
        due(OUTSIDE, "row", 0, 1, 7, 2);
        edge("1 to 6 cells: a byte, or -1 (any): of ints");
        for (int no : new int[] {LEAST, GREATEST, -2, 128, 255, 256}) {
            fill(0, 2, no);
            due(OUTSIDE, "row", 0, 2, 0, 1);
        }
        edge("1 to 6 cells: a byte, or -1 (any): of bytes");
        fill(0, 0, 255, 128, 127);
        due(0, "row", 0, 0, 0, 1);
        due(OUTSIDE, "row", 0, 0, 1, 1);
        due(1, "row", 0, 0, 2, 1);
    }

    private static void rowFaults() {
        edge("A ROW of n cells of a SHEET from i on: CAST; NULL; SIZE; INDEX");
        due(NULL, "row", new int[] {0, 1, 2, 3}, new int[] {0, 1, 2}, 0, 1);
        for (int lane = 0; lane < 3; lane++) {
            due(1, "sheet", lane, lane, 3);
            due(CAST, "row", lane, (lane + 1) % 3, 0, 1);
            due(CAST, "row", lane, (lane + 2) % 3, 0, 1);
            due(SIZE, "row", lane, lane, 0, new int[] {-1, LEAST});
            due(INDEX, "row", lane, lane, new int[] {-1, 3, 4, LEAST, GREATEST}, 1);
            due(INDEX, "row", lane, lane, 0, new int[] {4, 6, 7, GREATEST});
            due(INDEX, "row", lane, lane, new int[] {-1, 4, LEAST, GREATEST}, 0);
            due(OUTSIDE, "row", lane, lane, new int[] {0, 3}, 0);
            due(2 * lane, "row", lane, lane, 0, 3);
            due(2 * lane + 1, "row", lane, lane, 2, 1);
        }
        due(1, "lose", 0);
        due(NULL, "row", 0, new int[] {0, 1, 2}, 0, 1);
        due(1, "sheet", 3, 0, 0);
        due(OUTSIDE, "row", 3, 0, 0, 0);
        due(INDEX, "row", 3, 0, 0, 1);
        due(INDEX, "row", 3, 0, new int[] {-1, 1}, 0);
    }

    private static void rowAtTheEnd() {
        edge("n cells of a SHEET from i on: the last ones of the longest");
        due(1, "sheet", 0, 0, 60);
        due(0, "row", 0, 0, 54, 6);
        due(INDEX, "row", 0, 0, 55, 6);
        due(1, "set", 0, 57, 48);
        due(1, "set", 0, 58, 64);
        due(1, "set", 0, 59, 57);
        due(0, "chain", 0, 0, 57, 3);
        due(-102, "chain", 0, 0, 57, 2);
        due(INDEX, "chain", 0, 0, 57, 4);
    }

    private static void rowOrder() {
        edge("UNKNOWN; OUTSIDE: lane; CAST; NULL; SIZE; INDEX; OUTSIDE: n is not 1 .. 6, a cell; FULL.");
        fill(0, 1, 0, 0, 0, 0, 0, 0, -2);
        for (int full = 0; full < 2; full++) {
            due(UNKNOWN, "row", NO_SHEET, 3, 9, -1);
            due(OUTSIDE, "row", new int[] {0, 1}, NO_LANE, 9, -1);
            due(CAST, "row", 0, new int[] {0, 2}, 9, -1);
            due(NULL, "row", 1, new int[] {0, 1, 2}, 9, -1);
            due(SIZE, "row", 0, 1, 9, -1);
            due(INDEX, "row", 0, 1, 9, 7);
            due(INDEX, "row", 0, 1, 6, 2);
            due(OUTSIDE, "row", 0, 1, 0, 0);
            due(OUTSIDE, "row", 0, 1, 0, 7);
            due(OUTSIDE, "row", 0, 1, 1, 6);
            for (int r = 0; r < 8 && full == 0; r++) {
                due(r, "row", 0, 1, 0, 6);
            }
        }
        due(FULL, "row", 0, 1, 0, new int[] {1, 6});
    }

    private static void fitsWithinJoined() {
        edge("if all its cells are within what is JOINED and as told");
        watched(0, 1);
        due(0, "talk", 0, 0, 1);
        row(0, -1);
        row(1, -1, -1, -1, -1, -1, -1);
        row(2, 5, 5);
        due(0, "fits", new int[] {0, 1, 2}, 0, new int[] {0, 1}, 0);
        due(NONE, "fits", new int[] {0, 1, 2}, 0, new int[] {0, 1}, 1);
        piece(1, 0, 0, 0, 5);
        due(1, "fits", 0, 0, 0, 0);
        due(0, "fits", 2, 0, 0, 0);
        piece(1, 0, 2, 0, 5, 5, 5, 5);
        due(1, "fits", 0, 0, 0, 0);
        due(NONE, "fits", 2, 0, 0, 1);
        piece(1, 0, 1, 0, 6);
        due(6, "fits", 0, 0, 0, 0);
        due(1, "fits", 1, 0, 0, 0);
        due(0, "fits", 1, 0, 0, 1);
        due(3, "fits", 2, 0, 0, 0);
        due(2, "fits", 2, 0, 0, 1);
        piece(1, 0, 5, 0, 4);
        due(2, "fits", 2, 0, 1, 0);
        due(3, "fits", 2, 0, 0, 0);
        edge("A ROW FITS a TALK at a place: at the last one");
        watched(0, 1);
        due(0, "talk", 0, 0, 1);
        for (int place = 0; place < 60; place += 20) {
            piece(1, 0, place, 0, ofLength(20, 1));
        }
        piece(1, 0, 59, 0, ofLength(20, 1));
        piece(1, 0, 59, 0, 1, 1, 1, 1, 1, 1, 1, 1, 1, 1, 1, 1, 1, 1, 1, 1, 1, 1, 1, 2);
        row(0, 1, 1, 1, 1, 1, 2);
        row(1, 2);
        row(2, 1, 2);
        due(0, "fits", new int[] {0, 1, 2}, 0, 0, 0);
        due(1, "fits", new int[] {0, 1, 2}, 0, 1, 0);
        due(73, "fits", 0, 0, 1, 1);
        due(78, "fits", 1, 0, 1, 1);
        due(77, "fits", 2, 0, 1, 1);
        edge("a byte, or -1 (any): a 0 and a 127 are no any");
        watched(0, 1);
        due(0, "talk", 0, 0, 1);
        row(0, 0);
        row(1, 127);
        piece(1, 0, 0, 0, 127, 1, 0);
        due(1, "fits", new int[] {0, 1}, 0, 0, 0);
        due(2, "fits", 0, 0, 0, 1);
        due(0, "fits", 1, 0, 0, 1);
    }

    private static void fitsRefused() {
        edge("UNKNOWN: ROW, TALK; OUTSIDE: reading, what; STATE: it is SEALED.");
        due(UNKNOWN, "fits", 0, 0, 0, 0);
        row(0, 1);
        due(UNKNOWN, "fits", 0, 0, 2, 2);
        due(0, "talk", 0, 0, 1);
        due(1, "talk", 1, 0, 1);
        due(2, "talk", 2, 0, 1);
        due(UNKNOWN, "fits", new int[] {-1, 1, 8, LEAST, GREATEST}, new int[] {0, 1, 3}, new int[] {0, 2}, 2);
        due(UNKNOWN, "fits", 0, new int[] {-1, 3, 8, LEAST, GREATEST}, new int[] {0, 2}, 2);
        due(OUTSIDE, "fits", 0, new int[] {0, 1, 2}, NOT_0_OR_1, new int[] {0, 1, 2});
        due(OUTSIDE, "fits", 0, new int[] {0, 1, 2}, new int[] {0, 1}, NOT_0_OR_1);
        due(STATE, "fits", 0, new int[] {1, 2}, new int[] {0, 1}, new int[] {0, 1});
        due(0, "fits", 0, 0, new int[] {0, 1}, 0);
        for (int r = 1; r < 8; r++) {
            due(UNKNOWN, "fits", r, 0, 0, 0);
            row(r, 1);
        }
        due(0, "fits", 7, 0, 0, 0);
        due(UNKNOWN, "fits", NO_ROW, 0, 0, 0);
    }

    private static void scanEnds() {
        edge("A scan at a TICK: how many FINDINGS come. OUTSIDE.");
        watched(0, 1);
        due(0, "scan", new int[] {0, 999});
        due(0, "talk", 0, 0, 1);
        due(1, "talk", 0, 0, 1);
        row(0, 5);
        due(0, "scan", 5);
        piece(1, 0, 0, 0, 5);
        due(OUTSIDE, "scan", NO_TICK);
        due(1, "scan", 0);
        due(0, "finding", 0, 2);
        piece(1, 1, 0, 0, 5);
        due(OUTSIDE, "scan", NO_TICK);
        due(1, "scan", 999);
        due(999, "finding", 1, 2);
        due(0, "scan", new int[] {0, 999});
    }

    private static void scanRoom() {
        edge("FINDINGS, 40 ever, numbered as they come .. (as many as there is room for)");
        watched(0, 1);
        for (int k = 0; k < 8; k++) {
            due(k, "talk", 0, 0, 1);
        }
        for (int r = 0; r < 7; r++) {
            row(r, -1);
        }
        row(7, 2);
        for (int t = 0; t < 5; t++) {
            piece(1, t, 0, 0, 1);
        }
        due(35, "scan", 1);
        for (int t = 0; t < 4; t++) {
            piece(1, t, 1, 0, 2);
        }
        due(4, "scan", 2);
        due(UNKNOWN, "finding", 39, 0);
        piece(1, 7, 0, 0, 2);
        due(1, "scan", 3);
        due(40, "many", 4);
        due(0, "finding", 39, 0);
        due(7, "finding", 39, 1);
        due(3, "finding", 39, 2);
        due(0, "scan", 4);
        due(0, "clear", 39, 1);
        due(0, "scan", 4);
        due(UNKNOWN, "finding", NO_FINDING, 0);
        edge("as many as there is room for: 64 would come at once");
        watched(0, 1);
        for (int k = 0; k < 8; k++) {
            due(k, "talk", 0, 0, 1);
            piece(1, k, 0, 0, 1);
            row(k, 1);
        }
        due(40, "scan", 7);
        due(0, "scan", 8);
        due(4, "finding", 39, 1);
        due(7, "finding", 39, 0);
    }

    private static void scanFinds() {
        edge("by TALKS, then by ROWS");
        watched(0, 1);
        row(0, 2);
        row(1, 1);
        due(0, "talk", 0, 0, 1);
        due(1, "talk", 0, 0, 1);
        piece(1, 0, 0, 0, 1);
        piece(1, 1, 0, 0, 2, 1);
        due(3, "scan", 0);
        int[][] due = {{1, 0}, {0, 1}, {1, 1}};
        for (int f = 0; f < 3; f++) {
            due(due[f][0], "finding", f, 0);
            due(due[f][1], "finding", f, 1);
        }
        edge("of which no FINDING with that TALK is there: cleared or not");
        watched(0, 1);
        row(0, 1);
        due(0, "talk", 0, 0, 1);
        piece(1, 0, 0, 0, 1);
        due(1, "scan", 0);
        for (int is = 0; is < 3; is++) {
            due(is == 0 ? 0 : is - 1, "clear", 0, is);
            due(0, "scan", 1);
        }
        edge("in some READING: in the first one alone");
        watched(0, 1);
        row(0, 1);
        due(0, "talk", 0, 0, 1);
        piece(1, 0, 0, 0, 1);
        piece(1, 0, 0, 0, 2);
        due(0, "fits", 0, 0, 1, 0);
        due(1, "scan", 0);
        edge("in some READING: in the second one alone");
        watched(0, 1);
        row(0, 2);
        due(0, "talk", 0, 0, 1);
        piece(1, 0, 0, 0, 1);
        due(0, "scan", 0);
        piece(1, 0, 0, 0, 2);
        due(1, "scan", 0);
        edge("A ROW FITS a TALK (not a SEALED one)");
        watched(0, 1);
        row(0, -1);
        due(0, "talk", 1, 0, 1);
        due(1, "talk", 2, 0, 1);
        piece(1, 0, 0, 0, 1);
        piece(1, 1, 0, 0, 1);
        due(0, "scan", 0);
        edge("within what is JOINED: a gap at place 0");
        watched(0, 1);
        row(0, -1);
        due(0, "talk", 0, 0, 1);
        piece(1, 0, 1, 0, 1);
        due(0, "scan", 0);
        piece(1, 0, 0, 0, 1);
        due(1, "scan", 0);
    }

    /** Two findings: of talk 0 from machine 0 and of talk 1 from machine 1, both of row 0 at tick 3. */
    private static void twoFindings() {
        watched(0, 1);
        row(0, 1);
        row(1, 2);
        due(0, "talk", 0, 0, 1);
        due(1, "talk", 0, 1, 0);
        piece(1, 0, 0, 0, 1);
        piece(1, 1, 0, 0, 1);
        due(2, "scan", 3);
    }

    private static void finding() {
        edge("Of a FINDING: 0 ROW .. 3 whether it is CLEARED (1), CONFIRMED (2), neither (0). UNKNOWN; OUTSIDE.");
        due(UNKNOWN, "finding", new int[] {-1, 0, 39, LEAST, GREATEST}, new int[] {0, 4});
        twoFindings();
        due(0, "finding", 0, new int[] {0, 1, 3});
        due(1, "finding", 1, 1);
        due(3, "finding", new int[] {0, 1}, 2);
        due(UNKNOWN, "finding", new int[] {-1, 2, 40, LEAST, GREATEST}, new int[] {-1, 0, 3, 4});
        due(OUTSIDE, "finding", new int[] {0, 1}, new int[] {-1, 4, LEAST, GREATEST});
    }

    private static void clear() {
        edge("A FINDING can be CLEARED, or CONFIRMED; neither at first.");
        due(UNKNOWN, "clear", new int[] {-1, 0, LEAST, GREATEST}, new int[] {0, 3});
        twoFindings();
        due(0, "finding", new int[] {0, 1}, 3);
        int was = 0;
        for (int is : new int[] {0, 1, 1, 2, 2, 0, 2, 1, 0}) {
            due(was, "clear", 1, is);
            due(is, "finding", 1, 3);
            due(0, "finding", 0, 3);
            was = is;
        }
        due(0, "clear", 1, 2);
        due(UNKNOWN, "clear", new int[] {-1, 2, 40, LEAST, GREATEST}, new int[] {-1, 0, 2, 3});
        due(OUTSIDE, "clear", new int[] {0, 1}, new int[] {-1, 3, LEAST, GREATEST});
        due(2, "finding", 1, 3);
    }

    private static void nothing() {
        edge("NOTHING of a ROW. LOST: UNKNOWN; OUTSIDE; STATE: none is CLEARED or CONFIRMED.");
        lost(UNKNOWN, "nothing", 0, 0);
        twoFindings();
        lost(STATE, "nothing", new int[] {0, 1}, new int[] {0, 1});
        lost(UNKNOWN, "nothing", new int[] {-1, 2, 8, LEAST, GREATEST}, new int[] {0, 1, 2});
        lost(OUTSIDE, "nothing", new int[] {0, 1}, NOT_0_OR_1);
        due(0, "clear", 0, 2);
        due(0, "nothing", 0, 0);
        due(1, "nothing", 0, 1);
        lost(OUTSIDE, "nothing", 0, NOT_0_OR_1);
        lost(STATE, "nothing", 1, new int[] {0, 1});
        due(0, "clear", 1, 1);
        due(1, "nothing", 0, 0);
        due(2, "nothing", 0, 1);
        due(2, "clear", 0, 1);
        due(1, "nothing", 0, new int[] {0, 1});
        due(1, "clear", 0, 0);
        due(1, "nothing", 0, new int[] {0, 1});
        due(1, "clear", 1, 0);
        lost(STATE, "nothing", 0, new int[] {0, 1});
        edge("Shares are told as upper and lower number (above 0) in least terms.");
        watched(0, 1);
        row(0, 1);
        for (int t = 0; t < 8; t++) {
            due(t, "talk", 0, 0, 1);
            piece(1, t, 0, 0, 1);
        }
        due(8, "scan", 0);
        for (int f = 0; f < 8; f++) {
            due(0, "clear", f, 2);
        }
        int[][] shares = {{1, 8}, {1, 4}, {3, 8}, {1, 2}, {5, 8}, {3, 4}, {7, 8}, {1, 1}};
        due(0, "nothing", 0, 0);
        due(1, "nothing", 0, 1);
        for (int f = 0; f < 8; f++) {
            due(2, "clear", f, 1);
            due(shares[f][0], "nothing", 0, 0);
            due(shares[f][1], "nothing", 0, 1);
        }
    }

    private static void textEnds() {
        edge("how many codes there are, if it just ends too soon");
        twoFindings();
        chain(-100, "");
        chain(-101, "0");
        chain(-102, "0,");
        chain(-103, "0,1");
        chain(-102, "0@");
        chain(-109, "0,0,0,0,0");
        chain(-110, "0,0,0,0,0@");
        chain(3, "0@0");
        edge("a TEXT of no cells: of a SHEET of none, and at the end of one of 60");
        row(0, 1);
        due(1, "sheet", 0, 0, 0);
        due(-100, "chain", 0, 0, 0, 0);
        due(1, "sheet", 1, 2, 60);
        due(-100, "chain", 1, 2, new int[] {0, 60}, 0);
        due(-100, "chain", 1, 2, 0, 60);
        edge("a number (SPAN; 1 to 3 digits)");
        twoFindings();
        chain(-102, "0@");
        for (String text : new String[] {"0@0", "0@9", "0@00", "0@99", "0@000", "0@999"}) {
            chain(3, text);
        }
        chain(-105, "0@0000");
        chain(-105, "0@1234");
        chain(-105, "0@12345");
        chain(-105, "0@123,");
        chain(-104, "0@12@");
    }

    private static void textRows() {
        edge("one to five numbers of ROWS (one digit each) with , between");
        twoFindings();
        chain(-100, "@9");
        chain(3, "0@9");
        chain(0, "0,0,0,0,0@9");
        chain(-109, "0,0,0,0,0,0@9");
        chain(-109, "0,0,0,0,0,");
        chain(-101, "00@9");
        chain(-103, "0,00@9");
        chain(-102, "0,,0@9");
        chain(-102, "0,@9");
        chain(-100, ",0@9");
        edge("a ROW that there is not, too");
        chain(-100, "0@9");
        row(0, 1);
        chain(0, "0@9");
        chain(-100, "1@9");
        chain(-102, "0,1@9");
        chain(-108, "0,0,0,0,1@9");
        for (int r = 1; r < 8; r++) {
            chain(-100, r + "@9");
            row(r, 1);
            chain(0, r + "@9");
        }
        chain(-100, "8@9");
        chain(-100, "9@9");
        chain(-102, "7,8@9");
    }

    private static void textCodes() {
        edge("Codes: digits 48 .. 57, the comma 44, @ 64.");
        for (int r = 0; r < 8; r++) {
            row(r, 1);
        }
        for (int code = -1; code <= 128; code++) {
            fill(0, 1, code, 64, 48);
            due(code >= 48 && code <= 55 ? 0 : -100, "chain", 0, 1, 0, 3);
            fill(0, 1, 48, code, 48);
            due(code == 64 ? 0 : code == 44 ? -103 : -101, "chain", 0, 1, 0, 3);
            fill(0, 1, 48, 64, code);
            due(code >= 48 && code <= 57 ? 0 : -102, "chain", 0, 1, 0, 3);
            fill(0, 1, 48, 64, 57, code);
            due(code >= 48 && code <= 57 ? 0 : -103, "chain", 0, 1, 0, 4);
        }
        edge("the first code with which no TEXT goes on: any int");
        row(0, 1);
        for (int code : new int[] {LEAST, GREATEST, 48 + 256, 64 + 65536, 44 - 256}) {
            fill(0, 2, 48, 64, 48);
            for (int at = 2; at >= 0; at--) {
                due(1, "set", 0, at, code);
                due(-100 - at, "chain", 0, 2, 0, 3);
            }
        }
    }

    private static void chainFaults() {
        edge("by a TEXT of n cells of a SHEET from i on: CAST; NULL; SIZE; INDEX");
        twoFindings();
        due(NULL, "chain", 0, new int[] {0, 1, 2}, 0, 3);
        for (int lane = 0; lane < 3; lane++) {
            fill(lane, lane, 48, 48, 64, 57);
            due(CAST, "chain", lane, (lane + 1) % 3, 1, 3);
            due(CAST, "chain", lane, (lane + 2) % 3, 1, 3);
            due(SIZE, "chain", lane, lane, 0, new int[] {-1, LEAST});
            due(INDEX, "chain", lane, lane, new int[] {-1, 4, 5, LEAST, GREATEST}, 1);
            due(INDEX, "chain", lane, lane, 1, new int[] {4, GREATEST});
            due(INDEX, "chain", lane, lane, new int[] {-1, 5, LEAST, GREATEST}, 0);
            due(-100, "chain", lane, lane, new int[] {0, 4}, 0);
            due(3, "chain", lane, lane, 1, 3);
        }
    }

    private static void chainOrder() {
        edge("UNKNOWN; OUTSIDE: lane; CAST; NULL; SIZE; INDEX; -100 less it.");
        twoFindings();
        fill(0, 1, 7);
        due(UNKNOWN, "chain", NO_SHEET, 3, 9, -1);
        due(OUTSIDE, "chain", new int[] {0, 1}, NO_LANE, 9, -1);
        due(CAST, "chain", 0, new int[] {0, 2}, 9, -1);
        due(NULL, "chain", 1, new int[] {0, 1, 2}, 9, -1);
        due(SIZE, "chain", 0, 1, 9, -1);
        due(INDEX, "chain", 0, 1, 9, 2);
        due(-100, "chain", 0, 1, 0, 1);
        due(-100, "chain", 0, 1, 1, 0);
    }

    /** A piece of one byte of a talk, at its next place, and a scan. */
    private static void found(int t, int place, int value, int tick) {
        piece(1, t, place, 0, value);
        due(1, "scan", tick);
    }

    private static void chainSpans() {
        edge("the last TICK at most SPAN behind the first");
        watched(0, 9);
        row(0, 1);
        row(1, 2);
        due(0, "talk", 0, 9, 0);
        found(0, 0, 1, 0);
        found(0, 1, 2, 999);
        chain(512, "0,1@999");
        chain(0, "0,1@998");
        chain(512, "0@0");
        chain(512, "1@0");
        chain(0, "1,0@999");
        edge("TICKS not falling");
        watched(0, 1);
        row(0, 1);
        row(1, 2);
        due(0, "talk", 0, 0, 1);
        due(1, "talk", 0, 1, 0);
        found(0, 0, 1, 5);
        found(0, 1, 2, 5);
        found(1, 0, 1, 5);
        found(1, 1, 2, 4);
        chain(1, "0,1@0");
        chain(1, "0,1@999");
        chain(3, "1,0@1");
        chain(1, "1,0@0");
        edge("not CLEARED");
        twoFindings();
        chain(3, "0@0");
        due(0, "clear", 0, 1);
        chain(2, "0@0");
        due(0, "clear", 1, 2);
        chain(2, "0@0");
        due(1, "clear", 0, 0);
        chain(3, "0@0");
        due(2, "clear", 1, 1);
        chain(1, "0@0");
    }

    private static void chainLinks() {
        edge("FINDINGS all unlike");
        watched(0, 1);
        row(0, 1);
        for (int t = 0; t < 5; t++) {
            due(t, "talk", 0, 0, 1);
            StringBuilder rows = new StringBuilder("0");
            for (int k = 0; k < t; k++) {
                rows.append(",0");
            }
            chain(0, rows + "@999");
            found(t, 0, 1, 10 * t);
            chain(1, rows + "@" + 10 * t);
            if (t > 0) {
                chain(0, rows + "@" + (10 * t - 1));
            }
        }
        edge("of TALKS from it: not to it, and not of two MACHINES together");
        watched(0, 1);
        row(0, 1);
        row(1, 2);
        due(0, "talk", 0, 0, 1);
        due(1, "talk", 0, 1, 0);
        found(0, 0, 1, 1);
        found(1, 0, 2, 2);
        chain(1, "0@9");
        chain(2, "1@9");
        chain(0, "0,1@9");
        due(2, "talk", 0, 0, 1);
        found(2, 0, 2, 3);
        chain(1, "0,1@9");
        edge("Sets are told as bits (bit k for number k).");
        row(0, 1);
        for (int m = 2; m < 10; m++) {
            watched(m, 0);
            due(m - 2, "talk", 0, m, 0);
            piece(1, m - 2, 0, 0, 1);
        }
        chain(0, "0@0");
        due(8, "scan", 0);
        chain(1020, "0@0");
    }
}
