import java.lang.reflect.Array;
import java.util.ArrayList;
import java.util.Arrays;
import java.util.List;

/**
 * What tests of boundary cases share. Each case begins with a sentence of the document and a new object; each
 * answer is asked of the program and of the model. Behind each call fault() is held against what the document
 * says of it, and behind each call that changes nothing (a refused one above all) everything else that can be seen.
 */
abstract class Edge {
    static final int UNKNOWN = -1, OUTSIDE = -2, STATE = -3, FULL = -4, NONE = -9;
    static final int NULL = -11, CAST = -12, INDEX = -13, SIZE = -14;
    static final int LEAST = Integer.MIN_VALUE, GREATEST = Integer.MAX_VALUE;
    static final int[] NO_MACHINE = {-1, 10, LEAST, GREATEST};
    static final int[] NO_SHEET = {-1, 4, LEAST, GREATEST};
    static final int[] NO_KEEPER = {-1, 4, LEAST, GREATEST};
    static final int[] NO_LANE = {-1, 3, LEAST, GREATEST};
    static final int[] NO_TICK = {-1, 1000, LEAST, GREATEST};
    static final int[] NOT_0_OR_1 = {-1, 2, LEAST, GREATEST};
    static final Object[] YES_AND_NO = {true, false};

    private static final Check CHECK = new Check();
    private static final List<Object[]> DONE = new ArrayList<>();
    private static String sentence = "";
    private static WireWatch watch = new WireWatch();
    private static Model model = new Model();
    private static long[] seen;

    /** Begins a case with a new object. */
    static void edge(String words) {
        sentence = words;
        watch = new WireWatch();
        model = new Model();
        DONE.clear();
        seen = null;
    }

    /** A call and the answer that is due; a row among the numbers stands for each number of it in turn. */
    static void due(long want, String name, Object... numbers) {
        boolean isFault = want <= NULL && want >= SIZE && Calls.NAMING_FAULTS.contains(name) && !name.equals("cell");
        for (Object[] each : expanded(numbers, 0)) {
            one(want, isFault ? (int) (-10 - want) : 0, name, each);
        }
    }

    /** A call that answers LOST by a FAULT (NULL, CAST, INDEX), or by a refusal. */
    static void lost(int by, String name, Object... numbers) {
        for (Object[] each : expanded(numbers, 0)) {
            one(WireWatch.LOST, by <= NULL ? -10 - by : 0, name, each);
        }
    }

    private static List<Object[]> expanded(Object[] numbers, int from) {
        for (int k = from; k < numbers.length; k++) {
            List<Object[]> all = new ArrayList<>();
            int many = numbers[k].getClass().isArray() ? Array.getLength(numbers[k]) : 0;
            for (int at = 0; at < many; at++) {
                Object[] each = numbers.clone();
                each[k] = Array.get(numbers[k], at);
                all.addAll(expanded(each, k + 1));
            }
            if (many > 0) {
                return all;
            }
        }
        return List.<Object[]>of(numbers);
    }

    private static void one(long want, int fault, String name, Object[] numbers) {
        String told = sentence + ": " + Calls.told(name, numbers);
        boolean namesFaults = Calls.NAMING_FAULTS.contains(name);
        int faultDue = namesFaults ? fault : watch.fault();
        CHECK.due(told, Calls.ask(watch, name, numbers), want);
        CHECK.due(told + ", by the model", Calls.ask(model, name, numbers), want);
        CHECK.due(told + ", fault()", watch.fault(), faultDue);
        CHECK.due(told + ", fault() by the model", model.fault(), faultDue);
        if (Calls.changesNothing(name, want)) {
            changedNothing(told, name, numbers);
        } else {
            Object[] call = Arrays.copyOf(numbers, numbers.length + 1);
            call[numbers.length] = name;
            DONE.add(call);
            seen = null;
        }
    }

    /** Of two objects with the same calls behind them one gets this call, too: both must show the same. */
    private static void changedNothing(String told, String name, Object[] numbers) {
        if (seen == null) {
            seen = Probe.of(again());
        }
        WireWatch twin = again();
        Calls.ask(twin, name, numbers);
        CHECK.isTrue(told + " changed something", Arrays.equals(seen, Probe.of(twin)));
    }

    private static WireWatch again() {
        WireWatch twin = new WireWatch();
        for (Object[] call : DONE) {
            Calls.ask(twin, (String) call[call.length - 1], Arrays.copyOf(call, call.length - 1));
        }
        return twin;
    }

    static void end() {
        CHECK.end();
    }

    // ---- several calls at once, all of which are taken

    /** Gives a sheet a new row of a lane with these cells. */
    static void fill(int k, int lane, int... cells) {
        due(1, "sheet", k, lane, cells.length);
        for (int i = 0; i < cells.length; i++) {
            if (cells[i] != 0) {
                due(1, "set", k, i, cells[i]);
            }
        }
    }

    /** A piece of these bytes, by sheet 3. */
    static void piece(long want, int t, int place, int tick, int... bytes) {
        fill(3, 2, bytes);
        due(want, "piece", t, place, tick, 3, 2, 0, bytes.length);
    }

    /** A row of these cells, by sheet 3. */
    static void row(long want, int... cells) {
        fill(3, 2, cells);
        due(want, "row", 3, 2, 0, cells.length);
    }

    /** A chain by a text, by sheet 3. */
    static void chain(long want, String text) {
        fill(3, 0, text.chars().toArray());
        due(want, "chain", 3, 0, 0, text.length());
    }

    static void grow(long want, int... signs) {
        fill(3, 0, signs);
        due(want, "grow", 3, 0, 0, signs.length);
    }

    static void gone(long want, int... signs) {
        fill(3, 0, signs);
        due(want, "gone", 3, 0, 0, signs.length);
    }

    /** Roads between each of these machines and the next. */
    static void roads(int... machines) {
        for (int k = 1; k < machines.length; k++) {
            due(1, "road", machines[k - 1], machines[k], true);
        }
    }

    /** A road that has a post. */
    static void watched(int a, int b) {
        roads(a, b);
        due(1, "post", a, b, true);
    }

    static int[] ofLength(int n, int value) {
        int[] row = new int[n];
        Arrays.fill(row, value);
        return row;
    }
}
