import java.lang.reflect.Array;
import java.util.Arrays;

/**
 * Each call with all its numbers at their ends and beyond them, every one with every other, on an object that has
 * nothing, one that has something of all and one that is full: of several refusals and FAULTS the first in the
 * order told is due, by the model, and all that changes nothing together has changed nothing.
 */
public final class OrderTest {
    private static final int LEAST = Integer.MIN_VALUE, GREATEST = Integer.MAX_VALUE;
    private static final int[] MACHINE = {-1, 0, 1, 9, 10};
    private static final int[] TALK = {-1, 0, 1, 2, 3, 7, 8};
    private static final int[] EIGHT = {-1, 0, 1, 7, 8};
    private static final int[] SHEET = {-1, 0, 1, 2, 3, 4};
    private static final int[] LANE = {-1, 0, 1, 2, 3};
    private static final int[] INDEX = {LEAST, -1, 0, 1, 24, 25, 26, GREATEST};
    private static final int[] LENGTH = {LEAST, -1, 0, 1, 6, 7, 10, 11, 20, 21, 25, GREATEST};
    private static final int[] TICK = {-1, 0, 999, 1000};
    private static final int[] TWO = {-1, 0, 1, 2};
    private static final int[] KEEPER = {-1, 0, 3, 4};
    private static final int[] HOURS = {LEAST, -1, 0, 1, 16383, 16384};
    private static final int[] THING = {LEAST, -1, 0, 1, 9999, 10000, GREATEST};
    private static final int[] SIGN = {-1, 0, 3, 4};
    private static final int[] STATE = {-1, 0, 1, 3, 4, 15, 16};
    private static final int[] SET = {LEAST, -1, 0, 1, 2, 512, 513, 1023, 1024};
    private static final int[] DOORS = {LEAST, -1, 0, 1, 3, 4, 255, 256};
    private static final int[] FINDING = {-1, 0, 1, 39, 40};
    private static final Object[] IS = {true, false};
    private static final Check CHECK = new Check();

    public static void main(String[] args) {
        int[] full = {9, 8, 8, 8, 40, 16, 8, 60};
        for (int what = 0; what < 8; what++) {
            CHECK.due("full, many(" + what + ")", made(new WireWatch(), 2).many(what), full[what]);
        }
        CHECK.due("full, put", made(new WireWatch(), 2).put(9999, 1), WireWatch.FULL);
        for (int state = 0; state < 3; state++) {
            roads(state);
            rowsAndOddness(state);
            trapsAndDoors(state);
            sheets(state);
        }
        CHECK.end();
    }

    private static void roads(int state) {
        product(state, "road", MACHINE, MACHINE, IS);
        product(state, "post", MACHINE, MACHINE, IS);
        product(state, "door", MACHINE, MACHINE);
        product(state, "shut", EIGHT, IS);
        product(state, "way", MACHINE, MACHINE, new int[] {-2, -1, 0, 1, 9, 10});
        product(state, "blind", MACHINE, MACHINE);
        product(state, "talk", new int[] {-1, 0, 1, 2, 3}, MACHINE, MACHINE);
        product(state, "piece", new int[] {-1, 0, 1, 3, 8}, new int[] {-1, 0, 59, 60}, TICK, SHEET, LANE,
            new int[] {-1, 0, 24, 25, 26}, new int[] {-1, 0, 1, 20, 21, GREATEST});
        product(state, "about", TALK, new int[] {-1, 0, 1, 2, 3, 4, 5, 6, 7, 8, 9});
        product(state, "at", TALK, TWO, new int[] {-1, 0, 1, 78, 79});
    }

    private static void rowsAndOddness(int state) {
        product(state, "row", SHEET, LANE, INDEX, LENGTH);
        product(state, "fits", EIGHT, TALK, TWO, TWO);
        product(state, "scan", TICK);
        product(state, "finding", FINDING, new int[] {-1, 0, 1, 2, 3, 4});
        product(state, "clear", FINDING, new int[] {-1, 0, 1, 2, 3});
        product(state, "nothing", EIGHT, TWO);
        product(state, "chain", SHEET, LANE, INDEX, LENGTH);
        product(state, "count", MACHINE, new int[] {-1, 0, 13, 14}, new int[] {LEAST, -1, 0, 1, 999, 1000, GREATEST});
        product(state, "odds", MACHINE, HOURS, TWO);
        product(state, "group", MACHINE, new int[] {-1, 0, 3, 4});
        product(state, "likes", MACHINE, HOURS);
        product(state, "put", THING, new int[] {LEAST, -1, 0, 1, 99, 100, GREATEST});
        product(state, "told", THING, TWO);
        product(state, "miss");
    }

    private static void trapsAndDoors(int state) {
        product(state, "bar", SIGN, SIGN, IS);
        product(state, "grow", SHEET, LANE, INDEX, LENGTH);
        product(state, "gone", SHEET, LANE, INDEX, LENGTH);
        product(state, "answer", STATE, new int[] {LEAST, -1, 0, 99, 100, GREATEST});
        product(state, "next", STATE, SIGN);
        product(state, "rows", new int[] {LEAST, -1, 0, 1, 2, 20, 21, GREATEST});
        product(state, "work", MACHINE, MACHINE, new int[] {LEAST, 0, 1, 99, 100, GREATEST});
        product(state, "still", DOORS, TWO);
        product(state, "parted", SET, SET, DOORS);
        product(state, "least", SET, SET, TWO);
        product(state, "may", KEEPER, MACHINE, new int[] {LEAST, -9, -2, -1, 0, 999, 1000, GREATEST});
        product(state, "look", KEEPER, TALK, TICK);
        product(state, "looks", KEEPER, TWO);
    }

    private static void sheets(int state) {
        int[] index = {-1, 0, 25, 26, GREATEST};
        product(state, "sheet", SHEET, LANE, new int[] {LEAST, -1, 0, 1, 60, 61, GREATEST});
        product(state, "lose", SHEET);
        product(state, "set", SHEET, INDEX, new int[] {LEAST, -1, 0, 128, 32768, GREATEST});
        product(state, "cell", SHEET, INDEX, LANE);
        product(state, "copy", SHEET, index, SHEET, index, new int[] {LEAST, -1, 0, 1, 25, 26, GREATEST});
        product(state, "tell", TALK);
        product(state, "call", TALK);
        product(state, "as", TALK, new int[] {-1, 0, 1, 2, 3});
        product(state, "trace");
        product(state, "fault");
        product(state, "many", new int[] {LEAST, -1, 0, 1, 2, 3, 4, 5, 6, 7, 8, GREATEST});
    }

    /** One object gets all calls that change nothing; each call that changes something gets a new one. */
    private static void product(int state, String name, Object... choices) {
        WireWatch watch = made(new WireWatch(), state);
        Model model = made(new Model(), state);
        int[] at = new int[choices.length];
        boolean more = true;
        while (more) {
            Object[] numbers = new Object[choices.length];
            for (int k = 0; k < numbers.length; k++) {
                numbers[k] = Array.get(choices[k], at[k]);
            }
            int faultBefore = watch.fault();
            long due = Calls.ask(model, name, numbers);
            boolean changesNothing = Calls.changesNothing(name, due);
            WireWatch asked = changesNothing ? watch : made(new WireWatch(), state);
            String told = "state " + state + ": " + Calls.told(name, numbers);
            CHECK.due(told, Calls.ask(asked, name, numbers), due);
            boolean namesFaults = Calls.NAMING_FAULTS.contains(name);
            CHECK.due(told + ", fault()", asked.fault(), namesFaults || !changesNothing ? model.fault() : faultBefore);
            if (!changesNothing) {
                model = made(new Model(), state);
            }
            more = isNext(at, choices);
        }
        long[] due = Probe.of(made(new WireWatch(), state));
        CHECK.isTrue("state " + state + ": " + name + " changed something", Arrays.equals(due, Probe.of(watch)));
    }

    private static boolean isNext(int[] at, Object[] choices) {
        for (int k = at.length - 1; k >= 0; k--) {
            at[k]++;
            if (at[k] < Array.getLength(choices[k])) {
                return true;
            }
            at[k] = 0;
        }
        return false;
    }

    /** State 0 has nothing, state 1 something of all, state 2 as much as there is room for. */
    private static <T> T made(T watch, int state) {
        if (state > 0) {
            begin(watch, state == 1 ? 2 : 8);
            more(watch, state == 1 ? 2 : 60);
        }
        return watch;
    }

    private static void begin(Object watch, int many) {
        for (int m = 0; m < many; m++) {
            Calls.ask(watch, "road", m, m + 1, true);
            Calls.ask(watch, "post", m, m + 1, true);
            Calls.ask(watch, "door", m, m + 1);
        }
        Calls.ask(watch, "road", 8, 9, true);
        fill(watch, 0, 25);
        fill(watch, 1, 25);
        fill(watch, 2, 25);
        // Talk 0 is a plain one, 1 SEALED, 2 CARRIED; those from 3 on are plain ones.
        for (int t = 0; t < many + 1 && t < 8; t++) {
            Calls.ask(watch, "talk", t < 3 ? t : 0, 0, t == 3 ? 9 : 1);
            Calls.ask(watch, "piece", t, 0, 5, 0, 0, 0, 20);
        }
        for (int r = 0; r < many; r++) {
            Calls.ask(watch, "row", 0, 0, r, 2);
        }
        Calls.ask(watch, "scan", 7);
        for (int w = 0; w < many; w++) {
            Calls.ask(watch, "work", w, w + 1, 10 * w + 1);
        }
        Calls.ask(watch, "grow", 1, 1, 0, many + 1);
        Calls.ask(watch, "grow", 1, 1, 1, Math.min(many, 6));
        Calls.ask(watch, "bar", 3, 3, true);
    }

    private static void more(Object watch, int many) {
        Calls.ask(watch, "may", 0, 0, 500);
        for (int k = 0; k < many; k++) {
            Calls.ask(watch, "look", k % 4, 0, 450 + k);
            Calls.ask(watch, "count", k % 10, k % 14, 100 + k);
        }
        for (int k = 0; k < many * 4; k++) {
            Calls.ask(watch, "put", k * 49, 1 + k % 9);
        }
        Calls.ask(watch, "clear", 0, 1);
        Calls.ask(watch, "shut", 1, true);
        Calls.ask(watch, "group", 1, 2);
        Calls.ask(watch, "call", 0);
    }

    /** A sheet of a lane of its own number, of signs, with a number too great for a sign, a byte at its end. */
    private static void fill(Object watch, int k, int size) {
        Calls.ask(watch, "sheet", k, k, size);
        for (int i = 0; i < size; i++) {
            Calls.ask(watch, "set", k, i, i * 7 % 4);
        }
        Calls.ask(watch, "set", k, size - 1, k == 0 ? -2 : 128);
    }
}
