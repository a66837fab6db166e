/** Boundary cases of section 1 and of promises 1 to 11, a sentence each. */
public final class EdgesOfRoadsTest extends Edge {
    private static final int[] NO_PLACE = {-1, 79, LEAST, GREATEST};
    private static final int[] NO_START = {-1, 60, LEAST, GREATEST};

    public static void main(String[] args) {
        aNewObject();
        road();
        roadGone();
        post();
        door();
        shut();
        wayTaken();
        wayRefused();
        blind();
        talk();
        pieceEnds();
        pieceFaults();
        pieceOrder();
        pieceSeen();
        readings();
        joined();
        length();
        about();
        at();
        end();
    }

    private static void aNewObject() {
        edge("No ROADS, TALKS, ROWS, FINDINGS, WORKS, SHEETS.");
        due(0, "many", new int[] {0, 1, 2, 3, 4, 6, 7});
        due(1, "many", 5);
        for (int a = 0; a < 10; a++) {
            due(UNKNOWN, "post", a, (a + 1) % 10, YES_AND_NO);
            due(UNKNOWN, "door", a, (a + 1) % 10);
        }
        due(UNKNOWN, "about", new int[] {0, 7}, 0);
        due(UNKNOWN, "finding", new int[] {0, 39}, 0);
        due(UNKNOWN, "shut", new int[] {0, 7}, YES_AND_NO);
        lost(UNKNOWN, "nothing", new int[] {0, 7}, 0);
        due(0, "still", 0, new int[] {0, 1});
        due(0, "lose", new int[] {0, 1, 2, 3});
        lost(NULL, "cell", new int[] {0, 1, 2, 3}, 0, new int[] {0, 1, 2});
    }

    private static void road() {
        edge("MACHINES 0 .. 9.");
        due(1, "road", 0, 9, true);
        due(1, "road", 9, 1, true);
        due(UNKNOWN, "road", NO_MACHINE, 0, YES_AND_NO);
        due(UNKNOWN, "road", 0, NO_MACHINE, YES_AND_NO);
        due(UNKNOWN, "road", NO_MACHINE, NO_MACHINE, true);
        edge("ROADS between two of them: none at first");
        due(0, "many", 0);
        int laid = 0;
        for (int a = 0; a < 10; a++) {
            for (int b = a + 1; b < 10; b++) {
                due(0, "road", a, b, false);
                due(1, "road", b, a, true);
                laid++;
                due(laid, "many", 0);
            }
        }
        due(45, "many", 0);
        edge("A ROAD between two MACHINES, or none: 1; 0: it was so.");
        due(0, "road", 4, 5, false);
        due(1, "road", 4, 5, true);
        due(0, "road", 4, 5, true);
        due(0, "road", 5, 4, true);
        due(1, "road", 5, 4, false);
        due(0, "road", 4, 5, false);
        edge("UNKNOWN; OUTSIDE: both are one.");
        due(OUTSIDE, "road", 0, 0, YES_AND_NO);
        due(OUTSIDE, "road", 9, 9, YES_AND_NO);
        for (int no : NO_MACHINE) {
            due(UNKNOWN, "road", no, no, YES_AND_NO);
        }
    }

    private static void roadGone() {
        edge("its POST is gone then, its DOOR, if it has one, open, and numbered as it was");
        watched(0, 1);
        roads(1, 2);
        due(0, "door", 1, 2);
        due(1, "door", 0, 1);
        due(1, "shut", 1, true);
        due(1, "shut", 0, true);
        due(1, "road", 1, 0, false);
        due(2, "many", 1);
        due(UNKNOWN, "post", 0, 1, YES_AND_NO);
        due(1, "road", 0, 1, true);
        due(0, "post", 0, 1, false);
        due(0, "shut", 1, false);
        due(1, "way", 0, 1, -1);
        due(1, "door", 0, 1);
        due(0, "shut", 0, true);
        edge("its DOOR, if it has one: a ROAD without one gets none by going");
        roads(0, 1);
        due(1, "road", 0, 1, false);
        due(1, "road", 0, 1, true);
        due(0, "many", 1);
        due(UNKNOWN, "shut", 0, true);
        edge("its POST is gone then: from both its ends, whichever is told first");
        for (int a = 0; a < 2; a++) {
            watched(0, 1);
            due(1, "road", a, 1 - a, false);
            roads(0, 1);
            due(0, "post", 0, 1, false);
            due(0, "post", 1, 0, false);
            due(1, "blind", 0, 1);
            due(1, "blind", 1, 0);
            due(1, "road", 0, 1, false);
        }
        edge("its POST is gone then: of this ROAD alone");
        watched(0, 1);
        watched(0, 2);
        watched(1, 2);
        due(1, "road", 0, 1, false);
        due(0, "post", 0, 2, true);
        due(0, "post", 2, 1, true);
    }

    private static void post() {
        edge("A ROAD has a POST, or none: 1; 0: it was so.");
        roads(0, 9);
        due(0, "post", 0, 9, false);
        due(1, "post", 9, 0, true);
        due(0, "post", 0, 9, true);
        due(1, "post", 0, 9, false);
        due(0, "post", 9, 0, false);
        edge("UNKNOWN: MACHINES, there is no ROAD.");
        roads(0, 9);
        due(UNKNOWN, "post", NO_MACHINE, 0, YES_AND_NO);
        due(UNKNOWN, "post", 0, NO_MACHINE, YES_AND_NO);
        due(UNKNOWN, "post", 0, 1, YES_AND_NO);
        due(UNKNOWN, "post", 0, 0, YES_AND_NO);
        due(1, "road", 0, 9, false);
        due(UNKNOWN, "post", 0, 9, YES_AND_NO);
    }

    private static void door() {
        edge("some with a DOOR, 8 ever, numbered as they come");
        roads(0, 1, 2, 3, 4, 5, 6, 7, 8, 9);
        for (int d = 0; d < 8; d++) {
            due(d, "many", 1);
            due(d, "door", 8 - d, 7 - d);
        }
        due(8, "many", 1);
        due(FULL, "door", 8, 9);
        due(FULL, "door", 9, 8);
        edge("A ROAD has a DOOR: its number (as it was, if it has one)");
        roads(0, 1, 2, 3, 4, 5, 6, 7, 8, 9);
        for (int d = 0; d < 8; d++) {
            due(d, "door", d, d + 1);
            due(d, "door", d + 1, d);
        }
        due(0, "door", 1, 0);
        due(7, "door", 7, 8);
        due(1, "road", 0, 1, false);
        due(UNKNOWN, "door", 0, 1);
        due(FULL, "door", 8, 9);
        due(1, "road", 0, 1, true);
        due(0, "door", 0, 1);
        edge("open at first, or shut");
        roads(0, 1);
        due(0, "door", 0, 1);
        due(0, "shut", 0, false);
        due(1, "way", 0, 1, -1);
        edge("UNKNOWN: MACHINES, there is no ROAD; FULL.");
        roads(0, 1, 2, 3, 4, 5, 6, 7, 8, 9);
        for (int d = 0; d < 8; d++) {
            due(d, "door", d, d + 1);
        }
        due(UNKNOWN, "door", NO_MACHINE, 0);
        due(UNKNOWN, "door", 0, NO_MACHINE);
        due(UNKNOWN, "door", 0, 9);
        due(UNKNOWN, "door", 3, 3);
        due(FULL, "door", 8, 9);
    }

    private static void shut() {
        edge("A DOOR is shut, or open: 1; 0: it was so.");
        roads(0, 1);
        due(0, "door", 0, 1);
        due(0, "shut", 0, false);
        due(1, "shut", 0, true);
        due(0, "shut", 0, true);
        due(NONE, "way", 0, 1, -1);
        due(1, "shut", 0, false);
        due(0, "shut", 0, false);
        due(1, "way", 0, 1, -1);
        edge("UNKNOWN; STATE: its ROAD is none now.");
        due(UNKNOWN, "shut", new int[] {-1, 0, 8, LEAST, GREATEST}, YES_AND_NO);
        roads(0, 1, 2, 3, 4, 5, 6, 7, 8, 9);
        for (int d = 0; d < 8; d++) {
            due(UNKNOWN, "shut", d, YES_AND_NO);
            due(d, "door", d, d + 1);
        }
        due(UNKNOWN, "shut", new int[] {-1, 8, LEAST, GREATEST}, YES_AND_NO);
        due(1, "shut", 7, true);
        due(1, "road", 7, 8, false);
        due(STATE, "shut", 7, YES_AND_NO);
        due(1, "road", 0, 1, false);
        due(STATE, "shut", 0, YES_AND_NO);
        due(1, "shut", 1, true);
        due(1, "road", 7, 8, true);
        due(0, "shut", 7, false);
        due(1, "shut", 7, true);
    }

    private static void wayTaken() {
        edge("from one to itself: it alone");
        due(0, "way", 0, 0, -1);
        due(0, "way", 0, 0, 0);
        due(9, "way", 9, 9, 0);
        due(NONE, "way", 9, 9, new int[] {1, 9});
        roads(9, 0);
        due(0, "way", 9, 9, -1);
        due(NONE, "way", 9, 9, 1);
        edge("both ends are in it");
        roads(0, 1, 2, 3, 4, 5, 6, 7, 8, 9);
        due(9, "way", 0, 9, -1);
        for (int k = 0; k < 10; k++) {
            due(k, "way", 0, 9, k);
            due(9 - k, "way", 9, 0, k);
        }
        edge("with the fewest ROADS");
        roads(0, 1, 2, 9);
        roads(0, 8, 9);
        due(2, "way", 0, 9, -1);
        due(8, "way", 0, 9, 1);
        roads(0, 9);
        due(1, "way", 0, 9, -1);
        due(9, "way", 0, 9, 1);
        edge("of several the first as a row of MACHINES");
        roads(0, 5, 3, 9);
        roads(0, 4, 8, 9);
        due(4, "way", 0, 9, 1);
        due(8, "way", 0, 9, 2);
        due(3, "way", 9, 0, 1);
        due(5, "way", 9, 0, 2);
        roads(4, 7, 9);
        due(7, "way", 0, 9, 2);
        edge("of ROADS whose DOORS are not shut");
        roads(0, 1, 9);
        roads(0, 2, 3, 9);
        due(0, "door", 1, 9);
        due(1, "way", 0, 9, 1);
        due(1, "shut", 0, true);
        due(3, "way", 0, 9, -1);
        due(1, "door", 0, 2);
        due(1, "shut", 1, true);
        due(NONE, "way", 0, 9, -1);
        due(1, "way", 0, 1, -1);
    }

    private static void wayRefused() {
        edge("NONE: there is none, it has fewer.");
        due(NONE, "way", 0, 1, new int[] {-1, 0, 1, 9});
        roads(0, 1, 2);
        due(2, "way", 0, 2, 2);
        due(NONE, "way", 0, 2, new int[] {3, 4, 9});
        due(NONE, "way", 0, 3, new int[] {-1, 0, 9});
        edge("UNKNOWN: MACHINES, k is not -1 .. 9.");
        roads(0, 1);
        due(1, "way", 0, 1, -1);
        due(NONE, "way", 0, 1, 9);
        due(UNKNOWN, "way", 0, 1, new int[] {-2, 10, LEAST, GREATEST});
        due(UNKNOWN, "way", 0, 2, new int[] {-2, 10});
        due(UNKNOWN, "way", 0, 0, new int[] {-2, 10});
        due(UNKNOWN, "way", NO_MACHINE, 0, new int[] {-2, -1, 0, 9, 10});
        due(UNKNOWN, "way", 0, NO_MACHINE, new int[] {-2, -1, 0, 9, 10});
        for (int no : NO_MACHINE) {
            due(UNKNOWN, "way", no, no, 0);
        }
    }

    private static void blind() {
        edge("from a MACHINE to another one there is a WAY without a POST");
        due(0, "blind", 0, 9);
        roads(0, 9);
        due(1, "blind", 0, 9);
        due(1, "blind", 9, 0);
        due(1, "post", 0, 9, true);
        due(0, "blind", 0, 9);
        roads(0, 1, 2, 3, 4, 5, 6, 7, 8, 9);
        due(1, "blind", 0, 9);
        due(1, "way", 0, 9, -1);
        due(1, "post", 4, 5, true);
        due(0, "blind", 0, 9);
        due(1, "blind", 5, 9);
        due(1, "post", 0, 9, false);
        due(1, "blind", 4, 5);
        due(0, "door", 0, 9);
        due(1, "shut", 0, true);
        due(0, "blind", 4, 5);
        edge("a WAY without a POST: of ROADS whose DOORS are not shut");
        roads(0, 1, 2);
        due(0, "door", 0, 1);
        due(1, "door", 1, 2);
        due(1, "blind", 0, 2);
        due(1, "blind", 1, 2);
        due(1, "shut", 0, true);
        due(0, "blind", 0, 2);
        due(1, "blind", 1, 2);
        edge("Whether it is BLIND: 1, 0. UNKNOWN; OUTSIDE: both are one.");
        due(UNKNOWN, "blind", NO_MACHINE, 0);
        due(UNKNOWN, "blind", 0, NO_MACHINE);
        due(OUTSIDE, "blind", 0, 0);
        due(OUTSIDE, "blind", 9, 9);
        for (int no : NO_MACHINE) {
            due(UNKNOWN, "blind", no, no);
        }
    }

    private static void talk() {
        edge("TALKS, 8 ever, numbered as they come");
        for (int t = 0; t < 8; t++) {
            due(t, "many", 2);
            due(t, "talk", t % 3, t, 9);
        }
        due(8, "many", 2);
        due(FULL, "talk", new int[] {0, 1, 2}, 0, 9);
        due(7, "about", 7, 1);
        edge("from a MACHINE to another one, of a kind: 0 TALK; 1 SEALED, a TALK; 2 CARRIED, a SEALED one");
        due(0, "talk", 0, 0, 9);
        due(1, "talk", 1, 9, 0);
        due(2, "talk", 2, 4, 5);
        for (int t = 0; t < 3; t++) {
            due(t, "about", t, 0);
        }
        due(9, "about", 1, 1);
        due(0, "about", 1, 2);
        edge("UNKNOWN; OUTSIDE: kind, both are one; FULL.");
        int[] noKind = {-1, 3, LEAST, GREATEST};
        for (int t = 0; t < 8; t++) {
            due(UNKNOWN, "talk", 0, NO_MACHINE, 0);
            due(UNKNOWN, "talk", 3, 0, NO_MACHINE);
            due(OUTSIDE, "talk", noKind, 0, 1);
            due(OUTSIDE, "talk", 0, 9, 9);
            due(t, "talk", 0, 0, 1);
        }
        due(UNKNOWN, "talk", noKind, NO_MACHINE, 0);
        due(UNKNOWN, "talk", noKind, 0, NO_MACHINE);
        due(OUTSIDE, "talk", noKind, 0, 1);
        due(OUTSIDE, "talk", 0, 0, 0);
        due(FULL, "talk", 0, 0, 1);
        for (int no : NO_MACHINE) {
            due(UNKNOWN, "talk", 0, no, no);
        }
    }

    private static void pieceEnds() {
        edge("PIECES: at a place (0 .. 59), 1 to 20 bytes (0 .. 127), at a TICK (0 .. 999)");
        watched(0, 1);
        due(0, "talk", 0, 0, 1);
        due(1, "sheet", 0, 1, 60);
        due(1, "piece", 0, 0, 0, 0, 1, 0, 1);
        due(1, "piece", 0, 59, 999, 0, 1, 40, 20);
        due(79, "about", 0, 4);
        due(OUTSIDE, "piece", 0, NO_START, 0, 0, 1, 0, 1);
        due(OUTSIDE, "piece", 0, 0, NO_TICK, 0, 1, 0, 1);
        due(OUTSIDE, "piece", 0, 0, 0, 0, NO_LANE, 0, 1);
        due(OUTSIDE, "piece", 0, 0, 0, 0, 1, 0, new int[] {0, 21, 60});
        due(OUTSIDE, "piece", 0, 0, 0, 0, 1, 60, 0);
        due(1, "set", 0, 0, 127);
        due(1, "piece", 0, 1, 0, 0, 1, 0, 20);
        due(127, "at", 0, 0, 1);
        for (int no : new int[] {-1, 128, Short.MIN_VALUE, Short.MAX_VALUE}) {
            due(1, "set", 0, 30, no);
            due(OUTSIDE, "piece", 0, 0, 0, 0, 1, 30, 1);
            due(OUTSIDE, "piece", 0, 0, 0, 0, 1, 11, 20);
            due(OUTSIDE, "piece", 0, 0, 0, 0, 1, 30, 20);
        }
        due(1, "piece", 0, 0, 0, 0, 1, 10, 20);
        due(1, "piece", 0, 0, 0, 0, 1, 31, 20);
        edge("1 to 20 bytes (0 .. 127): of ints");
        watched(0, 1);
        due(0, "talk", 0, 0, 1);
        for (int no : new int[] {LEAST, GREATEST, -1, 128, 256}) {
            fill(0, 2, no);
            due(OUTSIDE, "piece", 0, 0, 0, 0, 2, 0, 1);
        }
        edge("1 to 20 bytes (0 .. 127): of bytes");
        watched(0, 1);
        due(0, "talk", 0, 0, 1);
        fill(0, 0, 128);
        due(OUTSIDE, "piece", 0, 0, 0, 0, 0, 0, 1);
        fill(0, 0, 256 + 127);
        due(1, "piece", 0, 0, 0, 0, 0, 0, 1);
        due(127, "at", 0, 0, 0);
    }

    private static void pieceFaults() {
        edge("CAST (nothing is no CAST); NULL; SIZE: n below 0; INDEX");
        watched(0, 1);
        due(0, "talk", 0, 0, 1);
        due(NULL, "piece", 0, 0, 0, new int[] {0, 1, 2, 3}, new int[] {0, 1, 2}, 0, 1);
        for (int lane = 0; lane < 3; lane++) {
            due(1, "sheet", lane, lane, 5);
            due(CAST, "piece", 0, 0, 0, lane, (lane + 1) % 3, 0, 1);
            due(CAST, "piece", 0, 0, 0, lane, (lane + 2) % 3, 0, 1);
            due(SIZE, "piece", 0, 0, 0, lane, lane, 0, new int[] {-1, LEAST});
            due(INDEX, "piece", 0, 0, 0, lane, lane, new int[] {-1, 5, 6, LEAST, GREATEST}, 1);
            due(1, "piece", 0, 0, 0, lane, lane, 0, 5);
            due(1, "piece", 0, 0, 0, lane, lane, 4, 1);
            due(INDEX, "piece", 0, 0, 0, lane, lane, 0, new int[] {6, 20, 21, GREATEST});
            due(INDEX, "piece", 0, 0, 0, lane, lane, 4, new int[] {2, GREATEST});
        }
        edge("n cells of a SHEET from i on: the last ones of the longest");
        watched(0, 1);
        due(0, "talk", 0, 0, 1);
        due(1, "sheet", 0, 2, 60);
        due(1, "set", 0, 59, 7);
        due(1, "piece", 0, 59, 0, 0, 2, 40, 20);
        due(7, "at", 0, 0, 78);
        due(INDEX, "piece", 0, 59, 0, 0, 2, 41, 20);
        edge("INDEX (of cells from i on also where i is not 0 .. how many there are, if none of them is taken, too)");
        watched(0, 1);
        due(0, "talk", 0, 0, 1);
        due(1, "sheet", 0, 0, 5);
        due(OUTSIDE, "piece", 0, 0, 0, 0, 0, new int[] {0, 5}, 0);
        due(INDEX, "piece", 0, 0, 0, 0, 0, new int[] {-1, 6, LEAST, GREATEST}, 0);
        due(1, "sheet", 0, 0, 0);
        due(OUTSIDE, "piece", 0, 0, 0, 0, 0, 0, 0);
        due(INDEX, "piece", 0, 0, 0, 0, 0, new int[] {-1, 1}, 0);
        due(INDEX, "piece", 0, 0, 0, 0, 0, 0, 1);
    }

    private static void pieceOrder() {
        edge("UNKNOWN: TALK, SHEET; OUTSIDE: place, tick, lane; CAST; NULL; SIZE; INDEX; OUTSIDE: n, a byte; STATE");
        due(0, "talk", 0, 0, 1);
        fill(1, 1, 0, 0, -1);
        due(UNKNOWN, "piece", new int[] {-1, 1, 8, LEAST, GREATEST}, -1, -1, 1, 3, 9, -1);
        due(UNKNOWN, "piece", 0, -1, -1, NO_SHEET, 3, 9, -1);
        due(UNKNOWN, "piece", 1, 0, 0, 1, 1, 0, 1);
        due(OUTSIDE, "piece", 0, 60, 0, new int[] {0, 1}, 0, 9, -1);
        due(OUTSIDE, "piece", 0, 0, 1000, new int[] {0, 1}, 0, 9, -1);
        due(OUTSIDE, "piece", 0, 0, 0, new int[] {0, 1}, 3, 9, -1);
        due(CAST, "piece", 0, 0, 0, 1, new int[] {0, 2}, 9, -1);
        due(NULL, "piece", 0, 0, 0, 0, new int[] {0, 1, 2}, 9, -1);
        due(SIZE, "piece", 0, 0, 0, 1, 1, 9, -1);
        due(INDEX, "piece", 0, 0, 0, 1, 1, 9, 21);
        due(INDEX, "piece", 0, 0, 0, 1, 1, 2, 2);
        due(OUTSIDE, "piece", 0, 0, 0, 1, 1, 0, 0);
        due(OUTSIDE, "piece", 0, 0, 0, 1, 1, 0, 3);
        due(STATE, "piece", 0, 0, 0, 1, 1, 0, 2);
        edge("it goes THE WAY (STATE: there is none)");
        watched(0, 1);
        watched(2, 9);
        due(0, "talk", 0, 0, 9);
        due(1, "talk", 1, 9, 0);
        due(2, "talk", 2, 9, 0);
        due(1, "sheet", 0, 0, 1);
        due(STATE, "piece", new int[] {0, 1, 2}, 0, 0, 0, 0, 0, 1);
        roads(1, 2);
        due(1, "piece", 0, 0, 0, 0, 0, 0, 1);
        due(0, "door", 1, 2);
        due(1, "shut", 0, true);
        due(STATE, "piece", new int[] {0, 1, 2}, 0, 0, 0, 0, 0, 1);
        due(0, "about", 0, 7);
    }

    private static void pieceSeen() {
        edge("SEEN, if a ROAD of it has a POST");
        roads(0, 1, 2, 3);
        due(0, "talk", 0, 0, 3);
        for (int a = 0; a < 3; a++) {
            due(1, "post", a, a + 1, true);
            piece(1, 0, a, 10 + a, 5);
            due(1, "post", a, a + 1, false);
            due(a + 1, "about", 0, 3);
        }
        piece(0, 0, 9, 9, 9);
        edge("else nothing is kept of it, but how many were UNSEEN");
        roads(0, 1);
        due(0, "talk", 0, 0, 1);
        due(1, "talk", 1, 1, 0);
        for (int k = 1; k <= 3; k++) {
            piece(0, 0, 0, 7, 1, 2, 3);
            due(k, "about", 0, 7);
            due(0, "about", 0, new int[] {3, 4, 5, 6});
            due(NONE, "about", 0, 8);
            due(NONE, "at", 0, new int[] {0, 1}, 0);
        }
        due(0, "about", 1, 7);
        edge("it goes THE WAY: no other one, though that has a POST");
        roads(0, 1, 9);
        watched(0, 2);
        roads(2, 9);
        due(0, "talk", 0, 0, 9);
        piece(0, 0, 0, 0, 1);
        due(0, "door", 1, 9);
        due(1, "shut", 0, true);
        piece(1, 0, 0, 0, 1);
        due(1, "shut", 0, false);
        piece(0, 0, 0, 0, 1);
        due(2, "about", 0, 7);
    }

    private static void readings() {
        edge("the FIRST READING: the first one; the SECOND READING: the first one that is unlike that");
        watched(0, 1);
        due(0, "talk", 0, 0, 1);
        piece(1, 0, 0, 0, 0);
        due(0, "at", 0, new int[] {0, 1}, 0);
        due(0, "about", 0, 5);
        piece(1, 0, 0, 0, 0);
        due(0, "about", 0, 5);
        piece(1, 0, 0, 0, 127);
        due(0, "at", 0, 0, 0);
        due(127, "at", 0, 1, 0);
        due(1, "about", 0, 5);
        due(0, "about", 0, 6);
        edge("each that is unlike both is one MORE");
        watched(0, 1);
        due(0, "talk", 0, 0, 1);
        piece(1, 0, 0, 0, 1, 1);
        piece(1, 0, 0, 0, 2, 2);
        piece(1, 0, 0, 0, 1, 2);
        due(0, "about", 0, 6);
        piece(1, 0, 0, 0, 3, 3);
        due(2, "about", 0, 6);
        piece(1, 0, 0, 0, 3, 1);
        due(3, "about", 0, 6);
        due(2, "at", 0, 1, 0);
        due(2, "about", 0, 5);
        edge("where there is none: as the first");
        watched(0, 1);
        due(0, "talk", 0, 0, 1);
        piece(1, 0, 59, 0, ofLength(20, 127));
        due(127, "at", 0, new int[] {0, 1}, new int[] {59, 78});
        due(NONE, "at", 0, new int[] {0, 1}, 58);
    }

    private static void joined() {
        edge("JOINED: how many places from 0 on have a byte, one behind the other");
        watched(0, 1);
        due(0, "talk", 0, 0, 1);
        due(0, "about", 0, 3);
        piece(1, 0, 1, 0, 5);
        due(0, "about", 0, 3);
        piece(1, 0, 0, 0, 5);
        due(2, "about", 0, 3);
        piece(1, 0, 3, 0, 5);
        due(2, "about", 0, 3);
        piece(1, 0, 2, 0, 5);
        due(4, "about", 0, 3);
        piece(1, 0, 4, 0, ofLength(20, 5));
        piece(1, 0, 24, 0, ofLength(20, 5));
        piece(1, 0, 44, 0, ofLength(15, 5));
        due(59, "about", 0, 3);
        piece(1, 0, 59, 0, ofLength(19, 5));
        due(78, "about", 0, 3);
        piece(1, 0, 59, 0, ofLength(20, 5));
        due(79, "about", 0, 3);
    }

    private static void length() {
        edge("LENGTH: of a TALK, SEALED one the last place with a byte, and one (0: none)");
        watched(0, 1);
        due(0, "talk", 0, 0, 1);
        due(1, "talk", 1, 0, 1);
        due(0, "about", new int[] {0, 1}, 4);
        for (int t = 0; t < 2; t++) {
            piece(1, t, 0, 0, 5);
            due(1, "about", t, 4);
            piece(1, t, 59, 0, ofLength(20, 5));
            due(79, "about", t, 4);
            piece(1, t, 3, 0, 5);
            due(79, "about", t, 4);
        }
        edge("of a CARRIED one 4 less (0 at least)");
        watched(0, 1);
        due(0, "talk", 2, 0, 1);
        due(0, "about", 0, 4);
        int[] lengths = {0, 0, 0, 0, 1, 2};
        for (int place = 0; place < lengths.length; place++) {
            piece(1, 0, place, 0, 5);
            due(lengths[place], "about", 0, 4);
        }
        piece(1, 0, 59, 0, ofLength(20, 5));
        due(75, "about", 0, 4);
        edge("Bytes of SEALED ones are not told (STATE).");
        watched(0, 1);
        due(0, "talk", 1, 0, 1);
        due(1, "talk", 2, 0, 1);
        due(STATE, "at", new int[] {0, 1}, new int[] {0, 1}, new int[] {0, 78});
        piece(1, 0, 0, 0, 5);
        piece(1, 1, 0, 0, 5);
        due(STATE, "at", new int[] {0, 1}, new int[] {0, 1}, new int[] {0, 78});
    }

    private static void about() {
        edge("Of a TALK: 0 kind .. 8 the TICK of the latest that was SEEN (NONE). UNKNOWN; OUTSIDE.");
        due(UNKNOWN, "about", new int[] {-1, 0, LEAST, GREATEST}, new int[] {0, 8, 9});
        roads(0, 1);
        due(0, "talk", 0, 0, 1);
        due(NONE, "about", 0, 8);
        piece(0, 0, 0, 5, 1);
        due(NONE, "about", 0, 8);
        due(1, "post", 0, 1, true);
        piece(1, 0, 0, 0, 1);
        due(0, "about", 0, 8);
        piece(1, 0, 0, 999, 1);
        due(999, "about", 0, 8);
        piece(1, 0, 0, 3, 1);
        due(3, "about", 0, 8);
        due(1, "post", 0, 1, false);
        piece(0, 0, 0, 4, 1);
        due(3, "about", 0, 8);
        due(OUTSIDE, "about", 0, new int[] {-1, 9, LEAST, GREATEST});
        due(UNKNOWN, "about", new int[] {-1, 1, 8, LEAST, GREATEST}, new int[] {-1, 0, 9});
        for (int t = 1; t < 8; t++) {
            due(t, "talk", 0, 0, 1);
        }
        due(0, "about", 7, 0);
        due(UNKNOWN, "about", 8, new int[] {0, 9});
    }

    private static void at() {
        edge("UNKNOWN: TALK, place is not 0 .. 78; OUTSIDE: reading; STATE: it is SEALED.");
        due(UNKNOWN, "at", 0, 0, 0);
        due(0, "talk", 0, 0, 1);
        due(1, "talk", 1, 0, 1);
        due(2, "talk", 2, 0, 1);
        due(NONE, "at", 0, new int[] {0, 1}, new int[] {0, 78});
        due(UNKNOWN, "at", new int[] {-1, 3, 8, LEAST, GREATEST}, new int[] {0, 2}, 0);
        due(UNKNOWN, "at", new int[] {0, 1, 2}, new int[] {-1, 0, 1, 2}, NO_PLACE);
        due(OUTSIDE, "at", new int[] {0, 1, 2}, NOT_0_OR_1, new int[] {0, 78});
        due(STATE, "at", new int[] {1, 2}, new int[] {0, 1}, new int[] {0, 78});
    }
}
