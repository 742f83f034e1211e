/** Counts answers that are as due and prints those that are not. */
final class Checks {
    private int right;
    private int wrong;

    void due(String call, long got, long want) {
        if (got == want) {
            right++;
            return;
        }
        wrong++;
        System.out.println(call + " answered " + got + ", due is " + want);
    }

    void holds(String what, boolean is) {
        due(what, is ? 1 : 0, 1);
    }

    void end() {
        System.out.println(right + " answers as due, " + wrong + " not");
        if (wrong != 0 || right == 0) {
            System.exit(1);
        }
    }

    /** Lays a text into a sheet as a row of a sort, from cell i on, with one cell more behind it. */
    static void text(TollTales x, int sheet, int sort, int i, String text) {
        x.sheet(sheet, sort, Math.min(40, i + text.length() + 1));
        for (int k = 0; k < text.length(); k++) {
            x.put(sheet, i + k, text.charAt(k));
        }
    }

    static int river(TollTales x, String text) {
        text(x, 0, 0, 0, text);
        return x.river(0, 0, 0, text.length());
    }

    static TollTales by(String text) {
        TollTales x = new TollTales();
        river(x, text);
        return x;
    }

    /** Makes a sheet a row of ints. */
    static void row(TollTales x, int sheet, int... cells) {
        x.sheet(sheet, 2, cells.length);
        for (int k = 0; k < cells.length; k++) {
            x.put(sheet, k, cells[k]);
        }
    }
}
