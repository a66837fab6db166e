import java.util.Arrays;

/** All that can be seen of an object by calls, as one row of answers; the object is spent by it. */
final class Probe {
    private static final int ENOUGH = 6000;
    private final Object watch;
    private long[] answers = new long[ENOUGH];
    private int size;

    private Probe(Object watch) {
        this.watch = watch;
    }

    static long[] of(Object watch) {
        Probe probe = new Probe(watch);
        probe.seeWays();
        probe.seeTalks();
        probe.seeFindings();
        probe.seeOddness();
        probe.seeTrap();
        probe.seeKeepers();
        probe.seeSheets();
        probe.uncoverNumbers();
        probe.uncoverRoads();
        probe.uncoverBytes();
        return Arrays.copyOf(probe.answers, probe.size);
    }

    private long see(String name, Object... numbers) {
        if (size == answers.length) {
            answers = Arrays.copyOf(answers, 2 * size);
        }
        answers[size] = Calls.ask(watch, name, numbers);
        size++;
        return answers[size - 1];
    }

    private void seeWays() {
        for (int what = 0; what < 8; what++) {
            see("many", what);
        }
        see("trace");
        for (int a = 0; a < 10; a++) {
            for (int b = a + 1; b < 10; b++) {
                see("way", a, b, -1);
                see("way", a, b, 1);
                see("blind", a, b);
            }
        }
        int doors = (1 << (int) see("many", 1)) - 1;
        for (int set : new int[] {0, doors, doors & 0x55, doors & 0xAA}) {
            see("still", set, 0);
            see("still", set, 1);
        }
        see("least", 1, 1022, 0);
        see("least", 3, 24, 0);
    }

    private void seeTalks() {
        long talks = see("many", 2);
        long rows = see("many", 3);
        for (int t = 0; t < talks; t++) {
            for (int what = 0; what < 9; what++) {
                see("about", t, what);
            }
            for (int place = 0; place < 79; place++) {
                see("at", t, 0, place);
                see("at", t, 1, place);
            }
            for (int r = 0; r < rows; r++) {
                see("fits", r, t, 0, 0);
                see("fits", r, t, 1, 1);
            }
        }
    }

    private void seeFindings() {
        long findings = see("many", 4);
        for (int f = 0; f < findings; f++) {
            for (int what = 0; what < 4; what++) {
                see("finding", f, what);
            }
        }
        for (int r = 0; r < 8; r++) {
            see("nothing", r, 0);
            see("nothing", r, 1);
        }
    }

    private void seeOddness() {
        for (int m = 0; m < 10; m++) {
            see("likes", m, 16383);
            see("odds", m, 1 << m, 0);
        }
        for (int x = 0; x < 10000; x += 97) {
            see("told", x, 0);
        }
        for (int x : new int[] {0, 1, 2, 50, 97, 199, 200, 9998, 9999}) {
            see("told", x, 0);
            see("told", x, 1);
        }
        see("miss");
    }

    private void seeTrap() {
        long states = see("many", 5);
        for (int state = 0; state < states; state++) {
            for (int sign = 0; sign < 4; sign++) {
                see("next", state, sign);
            }
        }
        for (int n = 0; n < 12; n++) {
            see("rows", n);
        }
    }

    private void seeKeepers() {
        for (int keeper = 0; keeper < 4; keeper++) {
            see("looks", keeper, 0);
            see("looks", keeper, 1);
        }
    }

    private void seeSheets() {
        for (int k = 0; k < 4; k++) {
            for (int lane = 0; lane < 3; lane++) {
                for (int i = 0; i < 60; i += see("cell", k, i, lane) == WireWatch.LOST ? 60 : 1) {
                    continue;
                }
            }
        }
    }

    /** Numbers that are told only by the call that changes them. */
    private void uncoverNumbers() {
        for (int m = 0; m < 10; m++) {
            for (int hour = 0; hour < 14; hour++) {
                see("count", m, hour, 0);
            }
            see("group", m, 0);
            for (int keeper = 0; keeper < 4; keeper++) {
                see("may", keeper, m, -1);
            }
        }
        for (int first = 0; first < 4; first++) {
            for (int second = 0; second < 4; second++) {
                see("bar", first, second, true);
            }
        }
        for (int state = 0; state < 16; state++) {
            see("answer", state, 0);
        }
        for (int k = 0; k < 4; k++) {
            see("lose", k);
        }
    }

    private void uncoverRoads() {
        for (int d = 0; d < 8; d++) {
            see("shut", d, false);
        }
        for (int a = 0; a < 10; a++) {
            for (int b = a + 1; b < 10; b++) {
                see("post", a, b, true);
                see("road", a, b, true);
                see("post", a, b, true);
                see("door", a, b);
            }
        }
        // A door whose road was gone could not be asked before.
        for (int d = 0; d < 8; d++) {
            see("shut", d, false);
        }
    }

    /** What sealed talks have been told is seen by what other pieces change, now that all roads have posts. */
    private void uncoverBytes() {
        long talks = see("many", 2);
        for (int value = 1; value < 4; value++) {
            see("sheet", 0, 2, 20);
            for (int i = 0; i < 20; i++) {
                see("set", 0, i, value);
            }
            for (int t = 0; t < talks; t++) {
                for (int place : new int[] {0, 20, 40, 59}) {
                    see("piece", t, place, 500, 0, 2, 0, 20);
                    see("about", t, 5);
                    see("about", t, 6);
                }
            }
        }
        see("scan", 500);
        see("many", 4);
        for (int t = 0; t < talks; t++) {
            see("tell", t);
            see("call", t);
        }
        see("trace");
    }
}
