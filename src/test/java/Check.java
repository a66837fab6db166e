/** Counts answers that are not the ones due, and prints each. */
final class Check {
    private int wrong;
    private int asked;

    void due(String call, long got, long want) {
        asked++;
        if (got != want) {
            wrong++;
            System.out.println(call + " answered " + got + ", due is " + want);
        }
    }

    void isTrue(String what, boolean holds) {
        due(what, holds ? 1 : 0, 1);
    }

    /** Ends the test: exit code 1 if an answer was wrong, or if nothing was asked. */
    void end() {
        System.out.println(asked + " answers, " + wrong + " wrong");
        if (wrong != 0 || asked == 0) {
            System.exit(1);
        }
    }

    /** Gives a sheet a new row of a lane with these cells. */
    static void fill(WireWatch x, int k, int lane, int... cells) {
        x.sheet(k, lane, cells.length);
        for (int i = 0; i < cells.length; i++) {
            x.set(k, i, cells[i]);
        }
    }

    /** A piece of these bytes, by sheet 3. */
    static int piece(WireWatch x, int t, int place, int tick, int... bytes) {
        fill(x, 3, 2, bytes);
        return x.piece(t, place, tick, 3, 2, 0, bytes.length);
    }

    /** A row of these cells, by sheet 3. */
    static int row(WireWatch x, int... cells) {
        fill(x, 3, 2, cells);
        return x.row(3, 2, 0, cells.length);
    }

    /** A chain by a text, by sheet 3. */
    static int chain(WireWatch x, String text) {
        x.sheet(3, 0, text.length());
        for (int i = 0; i < text.length(); i++) {
            x.set(3, i, text.charAt(i));
        }
        return x.chain(3, 0, 0, text.length());
    }

    static int grow(WireWatch x, int... signs) {
        fill(x, 3, 0, signs);
        return x.grow(3, 0, 0, signs.length);
    }

    static int gone(WireWatch x, int... signs) {
        fill(x, 3, 0, signs);
        return x.gone(3, 0, 0, signs.length);
    }

    /** Two machines, 0 and 1, with a road that has a post. */
    static WireWatch watchedPair() {
        WireWatch x = new WireWatch();
        x.road(0, 1, true);
        x.post(0, 1, true);
        return x;
    }
}
