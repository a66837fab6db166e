import java.util.Arrays;

/** Boundary cases of the terms that all calls share, a sentence each. */
public final class EdgesOfTermsTest extends Edge {
    public static void main(String[] args) {
        unknown();
        numbersOfFaults();
        refusalsAndFault();
        takenAndFault();
        end();
    }

    /** One of each: a road, a door, a talk, a row, a finding, a work, a look, a sheet (number 3). */
    private static void oneOfEach() {
        watched(0, 1);
        due(0, "door", 0, 1);
        due(0, "talk", 0, 0, 1);
        row(0, 1);
        piece(1, 0, 0, 0, 1);
        due(1, "scan", 0);
        due(0, "work", 0, 1, 1);
        due(0, "look", 0, 0, 0);
    }

    private static void unknown() {
        edge("UNKNOWN (there is no such MACHINE, ROAD, DOOR, TALK, ROW, FINDING, WORK, KEEPER, SHEET, place)");
        oneOfEach();
        due(UNKNOWN, "road", NO_MACHINE, 0, true);
        due(UNKNOWN, "post", 0, new int[] {2, 9}, true);
        due(UNKNOWN, "shut", new int[] {-1, 1, LEAST, GREATEST}, true);
        due(UNKNOWN, "about", new int[] {-1, 1, LEAST, GREATEST}, 0);
        due(UNKNOWN, "fits", new int[] {-1, 1, LEAST, GREATEST}, 0, 0, 0);
        due(UNKNOWN, "finding", new int[] {-1, 1, LEAST, GREATEST}, 0);
        due(UNKNOWN, "looks", NO_KEEPER, 0);
        due(UNKNOWN, "lose", NO_SHEET);
        due(UNKNOWN, "at", 0, 0, new int[] {-1, 79, LEAST, GREATEST});
        due(UNKNOWN, "way", 0, 1, new int[] {-2, 10, LEAST, GREATEST});
        due(UNKNOWN, "answer", new int[] {-1, 1, LEAST, GREATEST}, 0);
    }

    private static void numbersOfFaults() {
        edge("FAULTS are the machine's: 1 NULL, 2 CAST, 3 INDEX, 4 SIZE; it answers -10 less it");
        due(-11, "set", 0, 0, 0);
        due(1, "fault");
        due(1, "sheet", 0, 0, 1);
        due(-12, "row", 0, 1, 0, 1);
        due(2, "fault");
        due(-13, "row", 0, 0, 1, 1);
        due(3, "fault");
        due(-14, "row", 0, 0, 0, -1);
        due(4, "fault");
        edge("LOST, where a long is answered, as for refusals");
        lost(NULL, "cell", 0, 0, 0);
        due(1, "fault");
        due(1, "sheet", 0, 0, 1);
        lost(CAST, "cell", 0, 0, 1);
        due(2, "fault");
        lost(INDEX, "cell", 0, 1, 0);
        due(3, "fault");
        lost(UNKNOWN, "cell", 4, 0, 0);
        lost(OUTSIDE, "cell", 0, 0, 3);
        lost(UNKNOWN, "nothing", 0, 0);
        lost(UNKNOWN, "odds", 10, 1, 0);
        lost(OUTSIDE, "odds", 0, 0, 0);
    }

    /** Behind each refusal fault() is looked at by Edge itself: 0 of a call that names FAULTS, else as it was. */
    private static void refusalsAndFault() {
        edge("They change nothing (but fault(), of a call that names FAULTS).");
        oneOfEach();
        Object[][] refused = {
            {UNKNOWN, "road", 10, 0, true}, {OUTSIDE, "road", 0, 0, true}, {UNKNOWN, "post", 2, 3, true},
            {UNKNOWN, "door", 2, 3}, {UNKNOWN, "shut", 1, true}, {UNKNOWN, "way", 0, 1, 10},
            {OUTSIDE, "blind", 1, 1}, {OUTSIDE, "talk", 3, 0, 1}, {UNKNOWN, "piece", 1, 0, 0, 3, 2, 0, 1},
            {OUTSIDE, "piece", 0, 60, 0, 3, 2, 0, 1}, {OUTSIDE, "about", 0, 9}, {OUTSIDE, "at", 0, 2, 0},
            {OUTSIDE, "row", 3, 2, 0, 0}, {OUTSIDE, "fits", 0, 0, 2, 0}, {OUTSIDE, "scan", 1000},
            {OUTSIDE, "finding", 0, 4}, {OUTSIDE, "clear", 0, 3}, {UNKNOWN, "chain", 4, 0, 0, 0},
            {-100, "chain", 3, 2, 0, 1}, {OUTSIDE, "count", 0, 14, 0}, {OUTSIDE, "group", 0, 4},
            {OUTSIDE, "likes", 0, 0}, {OUTSIDE, "put", 0, 0}, {OUTSIDE, "told", 0, 2},
            {OUTSIDE, "bar", 4, 0, true}, {OUTSIDE, "grow", 3, 2, 0, 0}, {OUTSIDE, "gone", 3, 3, 0, 0},
            {OUTSIDE, "answer", 0, 100}, {OUTSIDE, "next", 0, 4}, {OUTSIDE, "rows", 21},
            {OUTSIDE, "work", 0, 1, 0}, {OUTSIDE, "still", 2, 0}, {OUTSIDE, "parted", 1, 1, 0},
            {OUTSIDE, "least", 1, 1, 0}, {OUTSIDE, "may", 0, 0, 1000}, {OUTSIDE, "look", 0, 0, 1000},
            {OUTSIDE, "looks", 0, 2}, {OUTSIDE, "sheet", 0, 0, 61}, {UNKNOWN, "lose", 4},
            {UNKNOWN, "set", 4, 0, 0}, {UNKNOWN, "copy", 4, 0, 0, 0, 0}, {UNKNOWN, "tell", 1},
            {UNKNOWN, "call", 1}, {OUTSIDE, "as", 0, 3}, {OUTSIDE, "many", 8}};
        for (Object[] call : refused) {
            due(NULL, "set", 0, 0, 0);
            Object[] numbers = Arrays.copyOfRange(call, 2, call.length);
            due((Integer) call[0], (String) call[1], numbers);
        }
        for (String name : new String[] {"nothing", "odds", "cell"}) {
            due(NULL, "set", 0, 0, 0);
            lost(UNKNOWN, name, name.equals("nothing") ? new Object[] {1, 0} : new Object[] {10, 1, 0});
        }
    }

    private static void takenAndFault() {
        edge("fault() tells it: of a call that came to none it is 0, others leave it");
        oneOfEach();
        due(1, "sheet", 1, 2, 1);
        Object[][] taken = {
            {0, "road", 0, 1, true}, {0, "post", 0, 1, true}, {0, "door", 0, 1}, {0, "shut", 0, false},
            {1, "way", 0, 1, -1}, {0, "blind", 0, 1}, {1, "talk", 0, 0, 1}, {1, "piece", 0, 0, 0, 3, 2, 0, 1},
            {0, "about", 0, 0}, {1, "at", 0, 0, 0}, {1, "row", 3, 2, 0, 1}, {1, "fits", 0, 0, 0, 0},
            {1, "scan", 1}, {0, "finding", 0, 0}, {0, "clear", 0, 1}, {1, "nothing", 0, 0},
            {0, "count", 0, 0, 1}, {1, "odds", 0, 1, 0}, {0, "group", 0, 1}, {1, "likes", 0, 1},
            {1, "put", 0, 1}, {1, "told", 0, 0}, {0, "miss"}, {1, "bar", 0, 0, true}, {1, "grow", 3, 2, 0, 1},
            {1, "gone", 3, 2, 0, 1}, {0, "answer", 0, 1}, {1, "next", 0, 1}, {1, "rows", 0},
            {1, "work", 0, 1, 1}, {0, "still", 0, 0}, {0, "parted", 1, 2, 0}, {1, "least", 1, 2, 0},
            {NONE, "may", 0, 0, 5}, {1, "look", 0, 0, 5}, {2, "looks", 0, 0}, {1, "sheet", 2, 0, 1},
            {1, "lose", 2}, {1, "set", 1, 0, 5}, {5, "cell", 1, 0, 2}, {1, "copy", 1, 0, 3, 0, 1},
            {1, "tell", 0}, {0, "call", 0}, {1, "as", 0, 0}, {1 * 31 + 4, "trace"}, {1, "many", 0}};
        for (Object[] call : taken) {
            due(NULL, "set", 0, 0, 0);
            due((Integer) call[0], (String) call[1], Arrays.copyOfRange(call, 2, call.length));
        }
    }
}
