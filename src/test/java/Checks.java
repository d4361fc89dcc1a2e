/** Holds answers against those that are due, and helps to bring rows into SHEETS. */
final class Checks {
    static final int BYTES = 0;
    static final int SHORTS = 1;
    static final int INTS = 2;
    static final int NULL = -11;
    static final int CAST = -12;
    static final int INDEX = -13;
    static final int SIZE = -14;

    private final String name;
    private int held;
    private int wrong;

    Checks(String name) {
        this.name = name;
    }

    void due(String call, long got, long want) {
        held++;
        if (got != want) {
            wrong++;
            System.out.println(name + ": " + call + " answered " + got + ", due is " + want);
        }
    }

    /** A call that names FAULTS, with what fault() tells behind it. */
    void dueWithFault(BurntPads pads, String call, long got, long want, int fault) {
        due(call, got, want);
        due("fault() behind " + call, pads.fault(), fault);
    }

    void holds(String what, boolean isSo) {
        due(what, isSo ? 1 : 0, 1);
    }

    /** Ends the program: with exit code 1, if one answer was not the one that is due. */
    void end() {
        System.out.println(name + ": " + held + " answers, " + wrong + " not as due");
        if (wrong != 0 || held == 0) {
            System.exit(1);
        }
    }

    static void fill(BurntPads pads, int sheet, int lane, int... cells) {
        pads.sheet(sheet, lane, cells.length);
        for (int i = 0; i < cells.length; i++) {
            pads.put(sheet, i, cells[i]);
        }
    }

    static int[] codesOf(String text) {
        return text.chars().toArray();
    }

    /** drill, of a TEXT that is brought to SHEET 3 first. */
    static int drill(BurntPads pads, String text) {
        fill(pads, 3, BYTES, codesOf(text));
        return pads.drill(3, BYTES, 0, text.length());
    }

    /** page, of GROUPS that are brought to SHEET 3 first. */
    static int page(BurntPads pads, int kind, int post, int... groups) {
        fill(pads, 3, INTS, groups);
        return pads.page(kind, post, 3, INTS, 0, groups.length);
    }

    /** letter, of WORDS that are brought to SHEET 3 first. */
    static int letter(BurntPads pads, int page, int day, int... words) {
        fill(pads, 3, SHORTS, words);
        return pads.letter(page, day, 3, SHORTS, 0, words.length);
    }

    /** crib, of WORDS that are brought to SHEET 3 first. */
    static int crib(BurntPads pads, int a, int b, int what, int... words) {
        fill(pads, 3, BYTES, words);
        return pads.crib(a, b, what, 3, BYTES, 0, words.length);
    }
}
