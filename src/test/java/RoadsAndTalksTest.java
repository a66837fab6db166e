/** Promises 1 to 11: a new object, roads, posts, doors, ways, talks and their pieces. */
public final class RoadsAndTalksTest {
    private static final Check c = new Check();
    private static final int LEAST = Integer.MIN_VALUE, GREATEST = Integer.MAX_VALUE;

    public static void main(String[] args) {
        newObject();
        road();
        post();
        door();
        shut();
        way();
        blind();
        talk();
        piece();
        pieceRefused();
        about();
        at();
        c.end();
    }

    private static void newObject() {
        WireWatch x = new WireWatch();
        for (int what = 0; what < 8; what++) {
            c.due("new many(" + what + ")", x.many(what), what == 5 ? 1 : 0);
        }
        for (int k = 0; k < 4; k++) {
            c.due("new lose(" + k + ")", x.lose(k), 0);
        }
        c.due("new post", x.post(0, 1, true), WireWatch.UNKNOWN);
        c.due("new about", x.about(0, 0), WireWatch.UNKNOWN);
        c.due("new fits", x.fits(0, 0, 0, 0), WireWatch.UNKNOWN);
        c.due("new finding", x.finding(0, 0), WireWatch.UNKNOWN);
        c.due("new still", x.still(0, 0), 0);
        c.due("new trace", x.trace(), 0);
        c.due("new fault", x.fault(), 0);
        c.due("new miss", x.miss(), 0);
        WireWatch other = new WireWatch();
        other.road(0, 1, true);
        c.due("another's road", x.many(0), 0);
    }

    private static void road() {
        WireWatch x = new WireWatch();
        c.due("road", x.road(0, 9, true), 1);
        c.due("road again", x.road(0, 9, true), 0);
        c.due("road turned", x.road(9, 0, true), 0);
        c.due("roads", x.many(0), 1);
        c.due("road none", x.road(3, 4, false), 0);
        for (int no : new int[] {-1, 10, LEAST, GREATEST}) {
            c.due("road(" + no + ", 0)", x.road(no, 0, true), WireWatch.UNKNOWN);
            c.due("road(0, " + no + ")", x.road(0, no, true), WireWatch.UNKNOWN);
            c.due("road(" + no + ", it)", x.road(no, no, true), WireWatch.UNKNOWN);
        }
        c.due("road to itself", x.road(4, 4, true), WireWatch.OUTSIDE);
        c.due("no road to itself", x.road(4, 4, false), WireWatch.OUTSIDE);
        x.post(0, 9, true);
        c.due("its door", x.door(0, 9), 0);
        x.shut(0, true);
        c.due("shut, no way", x.way(0, 9, -1), WireWatch.NONE);
        c.due("road away", x.road(9, 0, false), 1);
        c.due("road away again", x.road(0, 9, false), 0);
        c.due("roads none", x.many(0), 0);
        c.due("doors stay", x.many(1), 1);
        c.due("road back", x.road(0, 9, true), 1);
        c.due("its door is open", x.way(0, 9, -1), 1);
        c.due("its door was open", x.shut(0, false), 0);
        c.due("its post is gone", x.post(0, 9, false), 0);
        c.due("its door's number", x.door(9, 0), 0);
    }

    private static void post() {
        WireWatch x = new WireWatch();
        x.road(2, 5, true);
        c.due("post none", x.post(2, 5, false), 0);
        c.due("post", x.post(2, 5, true), 1);
        c.due("post turned", x.post(5, 2, true), 0);
        c.due("blind by post", x.blind(2, 5), 0);
        c.due("post away", x.post(5, 2, false), 1);
        c.due("blind again", x.blind(5, 2), 1);
        c.due("post, no road", x.post(2, 6, true), WireWatch.UNKNOWN);
        c.due("no post, no road", x.post(2, 6, false), WireWatch.UNKNOWN);
        c.due("post on itself", x.post(2, 2, true), WireWatch.UNKNOWN);
        for (int no : new int[] {-1, 10, LEAST, GREATEST}) {
            c.due("post(" + no + ", 2)", x.post(no, 2, true), WireWatch.UNKNOWN);
            c.due("post(2, " + no + ")", x.post(2, no, true), WireWatch.UNKNOWN);
        }
    }

    private static void door() {
        WireWatch x = new WireWatch();
        for (int m = 1; m < 10; m++) {
            x.road(0, m, true);
        }
        for (int m = 1; m < 9; m++) {
            c.due("door " + m, x.door(m % 2 == 0 ? 0 : m, m % 2 == 0 ? m : 0), m - 1);
        }
        c.due("a ninth door", x.door(0, 9), WireWatch.FULL);
        c.due("an old door", x.door(0, 8), 7);
        c.due("no road, full", x.door(1, 2), WireWatch.UNKNOWN);
        x.road(0, 3, false);
        c.due("door, road gone", x.door(0, 3), WireWatch.UNKNOWN);
        c.due("still full", x.door(9, 0), WireWatch.FULL);
        c.due("doors", x.many(1), 8);
        for (int no : new int[] {-1, 10, LEAST, GREATEST}) {
            c.due("door(" + no + ", 0)", x.door(no, 0), WireWatch.UNKNOWN);
            c.due("door(0, " + no + ")", x.door(0, no), WireWatch.UNKNOWN);
        }
    }

    private static void shut() {
        WireWatch x = new WireWatch();
        x.road(0, 1, true);
        c.due("shut none", x.shut(0, true), WireWatch.UNKNOWN);
        x.door(0, 1);
        c.due("was open", x.shut(0, false), 0);
        c.due("shut", x.shut(0, true), 1);
        c.due("was shut", x.shut(0, true), 0);
        c.due("no way", x.way(0, 1, -1), WireWatch.NONE);
        c.due("open", x.shut(0, false), 1);
        c.due("way", x.way(0, 1, -1), 1);
        for (int no : new int[] {-1, 1, 8, LEAST, GREATEST}) {
            c.due("shut(" + no + ")", x.shut(no, true), WireWatch.UNKNOWN);
        }
        x.shut(0, true);
        x.road(0, 1, false);
        c.due("shut, no road", x.shut(0, true), WireWatch.STATE);
        c.due("open, no road", x.shut(0, false), WireWatch.STATE);
        x.road(0, 1, true);
        c.due("shut, road again", x.shut(0, true), 1);
    }

    private static void way() {
        WireWatch x = new WireWatch();
        // 0-5-9 and 0-4-9 have two roads, 0-1-2-9 three: of the short ones by 4 is first
        int[][] roads = {{0, 5}, {5, 9}, {0, 4}, {4, 9}, {0, 1}, {1, 2}, {2, 9}};
        for (int[] r : roads) {
            x.road(r[0], r[1], true);
        }
        x.door(4, 9);
        c.due("roads", x.way(0, 9, -1), 2);
        c.due("0th", x.way(0, 9, 0), 0);
        c.due("1st", x.way(0, 9, 1), 4);
        c.due("2nd", x.way(0, 9, 2), 9);
        c.due("3rd", x.way(0, 9, 3), WireWatch.NONE);
        c.due("9th", x.way(0, 9, 9), WireWatch.NONE);
        x.shut(0, true);
        c.due("by 5", x.way(0, 9, 1), 5);
        x.road(0, 5, false);
        c.due("by 1, 2", x.way(0, 9, 2), 2);
        c.due("back by 2", x.way(9, 0, 1), 2);
        c.due("none", x.way(0, 7, -1), WireWatch.NONE);
        c.due("none, 0th", x.way(0, 7, 0), WireWatch.NONE);
        c.due("itself", x.way(7, 7, -1), 0);
        c.due("itself alone", x.way(7, 7, 0), 7);
        c.due("no more than itself", x.way(7, 7, 1), WireWatch.NONE);
        for (int no : new int[] {-2, 10, LEAST, GREATEST}) {
            c.due("way k " + no, x.way(0, 9, no), WireWatch.UNKNOWN);
            c.due("way from " + no, x.way(no, 9, 0), WireWatch.UNKNOWN);
            c.due("way to " + no, x.way(0, no, 0), WireWatch.UNKNOWN);
        }
        WireWatch line = new WireWatch();
        for (int m = 0; m < 9; m++) {
            line.road(m, m + 1, true);
        }
        c.due("longest", line.way(0, 9, -1), 9);
        for (int k = 0; k < 10; k++) {
            c.due("longest, " + k, line.way(9, 0, k), 9 - k);
        }
    }

    private static void blind() {
        WireWatch x = new WireWatch();
        c.due("no way", x.blind(0, 1), 0);
        x.road(0, 1, true);
        x.road(1, 2, true);
        x.road(2, 3, true);
        x.road(3, 0, true);
        x.post(0, 1, true);
        c.due("round about", x.blind(0, 1), 1);
        x.door(2, 3);
        x.shut(0, true);
        c.due("shut", x.blind(0, 1), 0);
        c.due("beside", x.blind(1, 2), 1);
        x.shut(0, false);
        x.post(1, 2, true);
        c.due("posts on both", x.blind(1, 3), 0);
        c.due("itself", x.blind(1, 1), WireWatch.OUTSIDE);
        for (int no : new int[] {-1, 10, LEAST, GREATEST}) {
            c.due("blind from " + no, x.blind(no, 0), WireWatch.UNKNOWN);
            c.due("blind to " + no, x.blind(0, no), WireWatch.UNKNOWN);
            c.due("blind both " + no, x.blind(no, no), WireWatch.UNKNOWN);
        }
    }

    private static void talk() {
        WireWatch x = new WireWatch();
        c.due("unknown first", x.talk(9, 10, 10), WireWatch.UNKNOWN);
        c.due("unknown second", x.talk(0, 0, -1), WireWatch.UNKNOWN);
        c.due("kind -1", x.talk(-1, 0, 1), WireWatch.OUTSIDE);
        c.due("kind 3", x.talk(3, 0, 1), WireWatch.OUTSIDE);
        c.due("itself", x.talk(0, 1, 1), WireWatch.OUTSIDE);
        for (int t = 0; t < 8; t++) {
            c.due("talk " + t, x.talk(t % 3, t, t + 1), t);
        }
        c.due("a ninth", x.talk(0, 0, 1), WireWatch.FULL);
        c.due("a ninth to itself", x.talk(0, 1, 1), WireWatch.OUTSIDE);
        c.due("talks", x.many(2), 8);
        c.due("kind of 5", x.about(5, 0), 2);
    }

    private static void piece() {
        WireWatch x = new WireWatch();
        x.road(0, 1, true);
        x.road(1, 2, true);
        x.talk(0, 0, 2);
        c.due("unseen", Check.piece(x, 0, 0, 0, 1, 2), 0);
        c.due("unseen ones", x.about(0, 7), 1);
        c.due("nothing is kept", x.about(0, 3), 0);
        c.due("no tick is kept", x.about(0, 8), WireWatch.NONE);
        x.post(2, 1, true);
        c.due("seen", Check.piece(x, 0, 0, 999, 0, 127), 1);
        c.due("byte 0", x.at(0, 0, 0), 0);
        c.due("byte 127", x.at(0, 1, 1), 127);
        x.road(0, 2, true);
        c.due("a shorter way without a post", Check.piece(x, 0, 5, 0, 1), 0);
        x.road(0, 2, false);
        x.road(0, 1, false);
        c.due("no way", Check.piece(x, 0, 0, 0, 1), WireWatch.STATE);
        c.due("no way is not unseen", x.about(0, 7), 2);
        c.due("no fault", x.fault(), 0);
        x.road(0, 1, true);
        int[] twenty = new int[20];
        c.due("the last place", Check.piece(x, 0, 59, 1, twenty), 1);
        c.due("place 78", x.at(0, 0, 78), 0);
        c.due("length", x.about(0, 4), 79);
        Check.fill(x, 0, 1, 9, 8, 7, 6);
        c.due("cells from 1 on", x.piece(0, 10, 0, 0, 1, 1, 2), 1);
        c.due("8", x.at(0, 0, 10), 8);
        c.due("7", x.at(0, 0, 11), 7);
        c.due("no more", x.at(0, 0, 12), WireWatch.NONE);
    }

    private static void pieceRefused() {
        WireWatch x = new WireWatch();
        x.talk(0, 0, 1);
        c.due("talk ahead of all", x.piece(1, 60, -1, 0, 3, 0, 1), WireWatch.UNKNOWN);
        c.due("sheet ahead of place", x.piece(0, 60, -1, 4, 3, 0, 1), WireWatch.UNKNOWN);
        c.due("place", x.piece(0, 60, 0, 0, 0, 0, 1), WireWatch.OUTSIDE);
        c.due("place below", x.piece(0, -1, 0, 0, 0, 0, 1), WireWatch.OUTSIDE);
        c.due("tick", x.piece(0, 0, 1000, 0, 0, 0, 1), WireWatch.OUTSIDE);
        c.due("tick below", x.piece(0, 0, -1, 0, 0, 0, 1), WireWatch.OUTSIDE);
        c.due("lane", x.piece(0, 0, 0, 0, 3, 0, 1), WireWatch.OUTSIDE);
        c.due("lane below", x.piece(0, 0, 0, 0, -1, 0, 1), WireWatch.OUTSIDE);
        c.due("nothing", x.piece(0, 0, 0, 0, 0, -5, -5), -11);
        c.due("NULL", x.fault(), 1);
        Check.fill(x, 0, 2, new int[30]);
        c.due("cast ahead of size", x.piece(0, 0, 0, 0, 1, -5, -5), -12);
        c.due("CAST", x.fault(), 2);
        c.due("size ahead of index", x.piece(0, 0, 0, 0, 2, -5, -5), -14);
        c.due("SIZE", x.fault(), 4);
        c.due("index below", x.piece(0, 0, 0, 0, 2, -1, 1), -13);
        c.due("INDEX", x.fault(), 3);
        c.due("index beyond", x.piece(0, 0, 0, 0, 2, 30, 1), -13);
        c.due("index beyond, none taken", x.piece(0, 0, 0, 0, 2, 31, 0), -13);
        c.due("index that wraps", x.piece(0, 0, 0, 0, 2, 1, GREATEST), -13);
        c.due("none taken at the end", x.piece(0, 0, 0, 0, 2, 30, 0), WireWatch.OUTSIDE);
        c.due("outside is no fault", x.fault(), 0);
        c.due("21 cells", x.piece(0, 0, 0, 0, 2, 0, 21), WireWatch.OUTSIDE);
        x.set(0, 3, 128);
        c.due("a byte of 128", x.piece(0, 0, 0, 0, 2, 0, 4), WireWatch.OUTSIDE);
        c.due("a byte not taken", x.piece(0, 0, 0, 0, 2, 0, 3), WireWatch.STATE);
        x.set(0, 3, -1);
        c.due("a byte of -1", x.piece(0, 0, 0, 0, 2, 3, 1), WireWatch.OUTSIDE);
        c.due("nothing came", x.about(0, 4), 0);
    }

    private static void about() {
        WireWatch x = Check.watchedPair();
        x.talk(0, 0, 1);
        x.talk(1, 1, 0);
        x.talk(2, 0, 1);
        c.due("latest of none", x.about(0, 8), WireWatch.NONE);
        c.due("length of none", x.about(2, 4), 0);
        Check.piece(x, 0, 1, 50, 10, 11);
        c.due("joined, a gap at 0", x.about(0, 3), 0);
        c.due("length", x.about(0, 4), 3);
        Check.piece(x, 0, 0, 20, 9, 10);
        c.due("joined", x.about(0, 3), 3);
        c.due("latest that came", x.about(0, 8), 20);
        c.due("one reading", x.about(0, 5), 0);
        Check.piece(x, 0, 0, 30, 8, 7);
        c.due("two readings", x.about(0, 5), 2);
        c.due("no more", x.about(0, 6), 0);
        Check.piece(x, 0, 0, 31, 6, 7);
        Check.piece(x, 0, 0, 32, 6, 10);
        c.due("each one more", x.about(0, 6), 2);
        c.due("first", x.about(1, 1), 1);
        c.due("second", x.about(1, 2), 0);
        for (int t = 1; t < 3; t++) {
            Check.piece(x, t, 0, 1, 1, 2, 3);
        }
        c.due("sealed length", x.about(1, 4), 3);
        c.due("carried length, not below 0", x.about(2, 4), 0);
        Check.piece(x, 2, 4, 1, 1);
        c.due("carried length", x.about(2, 4), 1);
        c.due("carried joined", x.about(2, 3), 3);
        x.talk(0, 0, 1);
        for (int place = 0; place < 60; place += 20) {
            Check.piece(x, 3, place, 1, new int[20]);
        }
        c.due("joined, no more beyond 60", x.about(3, 3), 60);
        Check.piece(x, 3, 59, 1, new int[20]);
        c.due("joined to the last place", x.about(3, 3), 79);
        Check.row(x, 0, 0, 0, 0, 0, 0);
        c.due("a row to the last place", x.fits(0, 3, 1, 0), 74);
        c.due("unknown", x.about(4, 9), WireWatch.UNKNOWN);
        c.due("unknown below", x.about(-1, 0), WireWatch.UNKNOWN);
        c.due("what 9", x.about(0, 9), WireWatch.OUTSIDE);
        c.due("what -1", x.about(0, -1), WireWatch.OUTSIDE);
    }

    private static void at() {
        WireWatch x = Check.watchedPair();
        x.talk(0, 0, 1);
        x.talk(1, 0, 1);
        x.talk(2, 0, 1);
        Check.piece(x, 0, 2, 1, 5, 6);
        Check.piece(x, 0, 2, 1, 5, 7);
        Check.piece(x, 0, 2, 1, 4, 8);
        c.due("first", x.at(0, 0, 3), 6);
        c.due("second", x.at(0, 1, 3), 7);
        c.due("second, later", x.at(0, 1, 2), 4);
        c.due("none", x.at(0, 1, 0), WireWatch.NONE);
        c.due("place 79", x.at(1, 2, 79), WireWatch.UNKNOWN);
        c.due("place -1", x.at(0, 0, -1), WireWatch.UNKNOWN);
        c.due("talk", x.at(3, 0, 0), WireWatch.UNKNOWN);
        c.due("reading ahead of sealed", x.at(1, 2, 0), WireWatch.OUTSIDE);
        c.due("reading -1", x.at(0, -1, 0), WireWatch.OUTSIDE);
        c.due("sealed", x.at(1, 0, 78), WireWatch.STATE);
        c.due("carried", x.at(2, 1, 0), WireWatch.STATE);
    }
}
