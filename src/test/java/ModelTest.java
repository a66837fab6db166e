import java.util.ArrayList;
import java.util.Arrays;
import java.util.List;
import java.util.Random;

/** Long runs of calls, the same ones every time, answered by the program and by the model. */
public final class ModelTest {
    private static final int CALLS = 512;
    private static final int SHOWN = 5;

    /**
     * A call, how often it comes, and what its numbers are, a letter each: m machine, b yes or no, d door, t talk,
     * r row, f finding, s state, k sheet, l lane, i index, n length, p place, c tick, w what, h hours, x thing,
     * g sign, v byte, q doors, o machines, y any small number, u hour.
     */
    private static final String[][] CALLS_BY_KIND = {
        {"road 30 mmb", "post 20 mmb", "door 12 mm", "shut 10 db", "way 10 mmy", "blind 8 mm", "talk 6 ymm",
            "piece 60 tpcklin", "about 15 ty", "at 15 twp", "sheet 6 klL", "set 20 kLv", "work 6 mmy", "still 6 qw",
            "parted 6 ooq", "least 3 oow", "many 3 y", "tell 4 t", "call 4 t", "as 4 ty", "trace 2 ", "fault 10 "},
        {"road 6 mmb", "post 6 mmb", "talk 8 0mm", "piece 60 tzcklin", "row 12 klin", "fits 15 rtww", "scan 12 c",
            "finding 8 fy", "clear 12 fy", "nothing 8 rw", "chain 6 klin", "sheet 6 klL", "set 30 kLv", "fault 4 ",
            "look 20 ytc", "may 10 ymc", "looks 4 yw", "many 3 y"},
        {"count 30 muc", "odds 6 mhw", "group 10 my", "likes 15 mh", "put 30 xy", "told 10 xw", "miss 2 "},
        {"bar 6 ggb", "grow 30 klin", "gone 30 klin", "answer 6 sy", "next 15 sg", "rows 6 y", "sheet 10 klL",
            "set 40 kLg", "lose 1 k", "copy 10 kikin", "cell 20 kil", "fault 10 ", "many 2 y"},
        {"road 20 mmb", "post 8 mmb", "door 16 mm", "shut 6 db", "way 15 mmy", "blind 10 mm", "work 4 mmy",
            "still 10 qw", "parted 20 ooq", "least 12 oow"},
    };
    private static final int[] EDGES = {-1, -2, 10, 14, 16, 60, 61, 79, 100, 128, 999, 1000, 1024, 9999, 10000, 16383,
        16384, Integer.MIN_VALUE, Integer.MAX_VALUE};

    public static void main(String[] args) {
        Check c = new Check();
        int wrong = 0;
        int runs = 0;
        for (int kind = 0; kind < CALLS_BY_KIND.length; kind++) {
            for (int seed = 0; seed < 150; seed++) {
                runs++;
                wrong += isRunAlike(new Random(seed * 10L + kind), kind, wrong < SHOWN) ? 0 : 1;
            }
        }
        for (int seed = 0; seed < 300; seed++) {
            runs++;
            wrong += areChainsAlike(new Random(seed)) ? 0 : 1;
        }
        c.due("runs that differ, of " + runs, wrong, 0);
        c.end();
    }

    private static boolean isRunAlike(Random chance, int kind, boolean shown) {
        WireWatch x = new WireWatch();
        Model model = new Model();
        List<String> told = new ArrayList<>();
        begin(x, model, chance, kind);
        int sum = Arrays.stream(CALLS_BY_KIND[kind]).mapToInt(s -> Integer.parseInt(s.split(" ")[1])).sum();
        for (int k = 0; k < CALLS; k++) {
            int pick = chance.nextInt(sum);
            int which = 0;
            while (pick >= Integer.parseInt(CALLS_BY_KIND[kind][which].split(" ")[1])) {
                pick -= Integer.parseInt(CALLS_BY_KIND[kind][which].split(" ")[1]);
                which++;
            }
            String[] call = CALLS_BY_KIND[kind][which].split(" ");
            Object[] numbers = numbers(chance, call.length > 2 ? call[2] : "");
            long got = Calls.ask(x, call[0], numbers);
            long due = Calls.ask(model, call[0], numbers);
            told.add(call[0] + Arrays.toString(numbers) + " = " + due);
            if (got != due) {
                if (shown) {
                    told.subList(Math.max(0, told.size() - 40), told.size()).forEach(System.out::println);
                    System.out.println("answered " + got);
                }
                return false;
            }
        }
        return true;
    }

    /** Makes refusals for want of talks, sheets and the like rarer. */
    private static void begin(WireWatch x, Model model, Random chance, int kind) {
        for (int k = 0; k < 4; k++) {
            both(x, model, "sheet", k, k % 3, kind == 3 ? 14 : 24);
        }
        for (int k = 0; k < 3 && kind < 2; k++) {
            both(x, model, "talk", k % 2 == 0 ? 0 : chance.nextInt(3), k, 4 - k == k ? 5 : 4 - k);
        }
        for (int k = 0; k < 8 && kind == 1; k++) {
            both(x, model, "road", 0, k + 1, true);
            both(x, model, "post", 0, k + 1, true);
        }
    }

    private static void both(WireWatch x, Model model, String name, Object... numbers) {
        Calls.ask(x, name, numbers);
        Calls.ask(model, name, numbers);
    }

    private static Object[] numbers(Random chance, String letters) {
        Object[] numbers = new Object[letters.length()];
        int sheet = letters.indexOf('k');
        for (int k = 0; k < numbers.length; k++) {
            boolean edge = chance.nextInt(60) == 0 && letters.charAt(k) != 'b';
            numbers[k] = edge ? (Object) EDGES[chance.nextInt(EDGES.length)] : number(chance, letters.charAt(k));
            // most sheets are kept in one lane each, so that most casts are right
            if (letters.charAt(k) == 'l' && chance.nextInt(12) != 0) {
                numbers[k] = Math.floorMod((Integer) numbers[sheet], 3);
            }
        }
        return numbers;
    }

    private static Object number(Random chance, char letter) {
        switch (letter) {
            case '0': return chance.nextInt(8) == 0 ? 1 : 0;
            case 'm': return chance.nextInt(chance.nextInt(4) == 0 ? 10 : 6);
            case 'b': return chance.nextInt(4) != 0;
            case 'd': case 't': case 'r': return chance.nextInt(chance.nextInt(2) == 0 ? 8 : 3);
            case 'f': return chance.nextInt(20);
            case 's': return chance.nextInt(17);
            case 'k': return chance.nextInt(4);
            case 'l': return chance.nextInt(3);
            case 'i': return chance.nextInt(6);
            case 'L': return chance.nextInt(24);
            case 'n': return chance.nextInt(9);
            case 'p': return chance.nextInt(chance.nextInt(6) == 0 ? 79 : 12);
            case 'z': return chance.nextInt(chance.nextInt(3) == 0 ? 12 : 2);
            case 'c': return chance.nextInt(chance.nextInt(3) == 0 ? 1000 : 20);
            case 'w': return chance.nextInt(2);
            case 'h': return chance.nextInt(16384);
            case 'u': return chance.nextInt(14);
            case 'x': return chance.nextInt(chance.nextInt(2) == 0 ? 10000 : 200);
            case 'g': return chance.nextInt(4);
            case 'v': return chance.nextInt(20) == 0 ? chance.nextInt(400) - 200 : chance.nextInt(4) - chance.nextInt(2);
            case 'q': return chance.nextInt(256) & chance.nextInt(256);
            case 'o': return 1 << chance.nextInt(10) | (chance.nextInt(3) == 0 ? 1 << chance.nextInt(10) : 0);
            default: return chance.nextInt(10);
        }
    }

    /** Many findings at few ticks, some cleared, and all manner of texts: chains, where a short cut is taken. */
    private static boolean areChainsAlike(Random chance) {
        WireWatch x = new WireWatch();
        Model model = new Model();
        for (int m = 1; m < 3; m++) {
            both(x, model, "road", 0, m, true);
            both(x, model, "post", 0, m, true);
        }
        both(x, model, "sheet", 0, 2, 4);
        for (int r = 0; r < 3; r++) {
            both(x, model, "set", 0, 0, r);
            both(x, model, "row", 0, 2, 0, 1);
        }
        for (int t = 0; t < 8; t++) {
            both(x, model, "talk", 0, chance.nextInt(4) == 0 ? 1 : 0, 2);
            for (int k = 0; k < 2; k++) {
                both(x, model, "set", 0, 0, chance.nextInt(3));
                both(x, model, "piece", t, k, 0, 0, 2, 0, 1);
                both(x, model, "scan", chance.nextInt(12));
            }
        }
        for (int k = 0; k < 3; k++) {
            both(x, model, "clear", chance.nextInt(16), chance.nextInt(3));
        }
        boolean alike = true;
        for (int k = 0; k < 40; k++) {
            String text = text(chance);
            both(x, model, "sheet", 1, 0, text.length());
            for (int i = 0; i < text.length(); i++) {
                both(x, model, "set", 1, i, (int) text.charAt(i));
            }
            long got = x.chain(1, 0, 0, text.length());
            long due = model.chain(1, 0, 0, text.length());
            if (got != due) {
                System.out.println("chain " + text + " answered " + got + ", due is " + due);
                alike = false;
            }
        }
        return alike;
    }

    private static String text(Random chance) {
        StringBuilder text = new StringBuilder();
        int links = 1 + chance.nextInt(chance.nextInt(10) == 0 ? 6 : 5);
        for (int k = 0; k < links; k++) {
            text.append(k == 0 ? "" : ",").append(chance.nextInt(chance.nextInt(20) == 0 ? 5 : 3));
        }
        text.append('@').append(chance.nextInt(chance.nextInt(20) == 0 ? 3000 : 13));
        if (chance.nextInt(4) == 0) {
            text.setCharAt(chance.nextInt(text.length()), "0123@,/:".charAt(chance.nextInt(8)));
        }
        if (chance.nextInt(8) == 0) {
            text.setLength(chance.nextInt(text.length()));
        }
        return text.toString();
    }
}
