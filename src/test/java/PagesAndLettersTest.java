/** Promises 6 to 10. */
public final class PagesAndLettersTest {
    private static final Checks checks = new Checks("PagesAndLettersTest");

    public static void main(String[] args) {
        promise6Page();
        promise6Refused();
        promise6Full();
        promise7OfPage();
        promise7Kinds();
        promise8Laid();
        promise8Size();
        promise8Refused();
        promise8State();
        promise8Full();
        promise9OfLetter();
        promise10Words();
        promise10Wrong();
        promise10DrillAsItIsNow();
        promise10Refused();
        checks.end();
    }

    private static int[] row(int size, int from) {
        int[] row = new int[size];
        for (int k = 0; k < size; k++) {
            row[k] = (from + k) % 100;
        }
        return row;
    }

    private static void dueGroups(BurntPads pads, int letter, int... groups) {
        checks.due("size of letter " + letter, pads.ofLetter(letter, 2), groups.length);
        for (int k = 0; k < groups.length; k++) {
            checks.due("group " + k + " of letter " + letter, pads.ofLetter(letter, 10 + k), groups[k]);
        }
    }

    private static void promise6Page() {
        BurntPads pads = new BurntPads();
        Checks.fill(pads, 0, Checks.BYTES, 100, 0, 99, -1, 300, 5);
        checks.due("page of two", pads.page(0, 5, 0, 0, 1, 2), 0);
        checks.due("its groups", pads.ofPage(0, 10) * 100 + pads.ofPage(0, 11), 99);
        checks.due("cut to a byte", pads.page(2, 0, 0, 0, 4, 2), 1);
        checks.due("its group", pads.ofPage(1, 10), 44);
        pads.put(0, 4, 1);
        checks.due("a page keeps its groups", pads.ofPage(1, 10), 44);
        checks.due("twelve", Checks.page(pads, 1, 3, row(12, 95)), 2);
        checks.due("the last of twelve", pads.ofPage(2, 21), 6);
        checks.due("many(1)", pads.many(1), 3);
    }

    private static void promise6Refused() {
        BurntPads pads = new BurntPads();
        Checks.fill(pads, 0, Checks.SHORTS, row(13, 0));
        Checks.fill(pads, 1, Checks.INTS, 100, -1);
        checks.dueWithFault(pads, "sheet 4, kind 3", pads.page(3, 0, 4, 3, 0, 1), BurntPads.UNKNOWN, 0);
        checks.dueWithFault(pads, "sheet -1", pads.page(0, 0, -1, 1, 0, 1), BurntPads.UNKNOWN, 0);
        checks.dueWithFault(pads, "nothing", pads.page(0, 0, 2, 1, -1, -1), Checks.NULL, 1);
        checks.dueWithFault(pads, "post 6, kind 3", pads.page(3, 6, 0, 3, 0, 1), BurntPads.UNKNOWN, 0);
        checks.dueWithFault(pads, "post -1", pads.page(0, -1, 0, 1, 0, 1), BurntPads.UNKNOWN, 0);
        checks.dueWithFault(pads, "another lane", pads.page(0, 0, 0, 0, -1, -1), Checks.CAST, 2);
        checks.dueWithFault(pads, "kind 3, another lane", pads.page(3, 0, 0, 0, 0, 1), BurntPads.OUTSIDE, 0);
        checks.dueWithFault(pads, "kind -1", pads.page(-1, 0, 0, 1, 0, 1), BurntPads.OUTSIDE, 0);
        checks.dueWithFault(pads, "lane 3, nothing", pads.page(0, 0, 2, 3, 0, 1), BurntPads.OUTSIDE, 0);
        checks.dueWithFault(pads, "n -1, i -1", pads.page(0, 0, 0, 1, -1, -1), Checks.SIZE, 4);
        checks.dueWithFault(pads, "i 14, n 0", pads.page(0, 0, 0, 1, 14, 0), Checks.INDEX, 3);
        checks.dueWithFault(pads, "i 1, n 13", pads.page(0, 0, 0, 1, 1, 13), Checks.INDEX, 3);
        checks.dueWithFault(pads, "n 0", pads.page(0, 0, 0, 1, 13, 0), BurntPads.OUTSIDE, 0);
        checks.dueWithFault(pads, "i -1", pads.page(0, 0, 0, 1, -1, 1), Checks.INDEX, 3);
        checks.dueWithFault(pads, "n 13", pads.page(0, 0, 0, 1, 0, 13), BurntPads.OUTSIDE, 0);
        checks.dueWithFault(pads, "100 is no group", pads.page(0, 0, 1, 2, 0, 1), BurntPads.OUTSIDE, 0);
        checks.dueWithFault(pads, "-1 is no group", pads.page(0, 0, 1, 2, 1, 1), BurntPads.OUTSIDE, 0);
        checks.due("many(1)", pads.many(1), 0);
        checks.dueWithFault(pads, "page", pads.page(0, 0, 0, 1, 0, 12), 0, 0);
    }

    private static void promise6Full() {
        BurntPads pads = new BurntPads();
        Checks.fill(pads, 0, Checks.BYTES, 1, 2, 100);
        for (int p = 0; p < 24; p++) {
            checks.due("page " + p, pads.page(p % 3, p % 6, 0, 0, 0, 2), p);
        }
        checks.due("page 24", pads.page(0, 0, 0, 0, 0, 2), BurntPads.FULL);
        checks.due("page 24 with no group", pads.page(0, 0, 0, 0, 2, 1), BurntPads.OUTSIDE);
        checks.due("many(1)", pads.many(1), 24);
        checks.due("ofPage(23, 0)", pads.ofPage(23, 0), 2);
        checks.due("ofPage(24, 0)", pads.ofPage(24, 0), BurntPads.UNKNOWN);
    }

    private static void promise7OfPage() {
        BurntPads pads = new BurntPads();
        pads.code(0, 1);
        Checks.drill(pads, "r1");
        Checks.page(pads, 1, 4, 7, 8, 9);
        int[] asTold = {1, 4, 3, 2, 0, 0};
        for (int what = 0; what < asTold.length; what++) {
            checks.due("ofPage(0, " + what + ")", pads.ofPage(0, what), asTold[what]);
        }
        for (int k = 0; k < 3; k++) {
            checks.due("group " + k, pads.ofPage(0, 10 + k), 7 + k);
        }
        Checks.letter(pads, 0, 0, 0);
        checks.due("burnt by one", pads.ofPage(0, 4) * 10 + pads.ofPage(0, 5), 11);
        Checks.letter(pads, 0, 0, 0, 0);
        checks.due("burnt by two", pads.ofPage(0, 4) * 10 + pads.ofPage(0, 5), 12);
        for (int what : new int[] {-1, 6, 9, 13, 22, Integer.MAX_VALUE, Integer.MIN_VALUE}) {
            checks.due("ofPage(0, " + what + ")", pads.ofPage(0, what), BurntPads.OUTSIDE);
        }
        checks.due("ofPage(1, 99)", pads.ofPage(1, 99), BurntPads.UNKNOWN);
        checks.due("ofPage(-1, 0)", pads.ofPage(-1, 0), BurntPads.UNKNOWN);
    }

    private static void promise7Kinds() {
        for (int kind = 0; kind < 3; kind++) {
            for (int size = 1; size <= 12; size++) {
                BurntPads pads = new BurntPads();
                Checks.page(pads, kind, 0, row(size, 0));
                checks.due("usable of kind " + kind + ", " + size, pads.ofPage(0, 3), Math.max(0, size - kind));
            }
        }
    }

    private static BurntPads padsWithWords() {
        BurntPads pads = new BurntPads();
        pads.code(0, 10);
        pads.code(1, 25);
        pads.code(2, 99);
        pads.code(3, 3);
        Checks.page(pads, 0, 0, 90, 80, 70, 60, 50, 40, 30, 20);
        return pads;
    }

    private static void promise8Laid() {
        BurntPads pads = padsWithWords();
        checks.due("plain", Checks.letter(pads, 0, 7, 0, 1, 2), 0);
        dueGroups(pads, 0, 0, 5, 69);
        Checks.drill(pads, "b42;r1");
        checks.due("with a beginning", Checks.letter(pads, 0, 0, 0, 1, 2), 1);
        dueGroups(pads, 1, 32, 90, 95, 59);
        Checks.drill(pads, "r1;l3");
        checks.due("made longer", Checks.letter(pads, 0, 99, 0, 1, 2, 0), 2);
        dueGroups(pads, 2, 0, 5, 69, 70, 50, 40);
        Checks.drill(pads, "r1;c");
        checks.due("with a check", Checks.letter(pads, 0, 0, 0, 1, 2), 3);
        // 10 * 2 + 25 * 3 + 99 * 4 = 491
        dueGroups(pads, 3, 0, 5, 69, 51);
        Checks.drill(pads, "c;r1;l4;b42");
        checks.due("with all", Checks.letter(pads, 0, 0, 0, 1), 4);
        // 42 * 2 + 10 * 3 + 25 * 4 + 0 * 5 = 214
        dueGroups(pads, 4, 32, 90, 95, 60, 64);
        checks.due("many(2)", pads.many(2), 5);
    }

    private static void promise8Size() {
        BurntPads pads = padsWithWords();
        Checks.drill(pads, "r1;l4");
        Checks.letter(pads, 0, 0, 0, 1, 2, 3);
        checks.due("a multiple already", pads.ofLetter(0, 2), 4);
        checks.due("no group at all", Checks.letter(pads, 0, 0), BurntPads.STATE);
        Checks.drill(pads, "r1;c");
        checks.due("just a check", Checks.letter(pads, 0, 0), 1);
        dueGroups(pads, 1, 90);
        Checks.drill(pads, "r1;b7");
        checks.due("just a beginning", Checks.letter(pads, 0, 0), 2);
        dueGroups(pads, 2, 97);
        Checks.drill(pads, "r1;b1;l6;c");
        checks.due("six and a check", Checks.letter(pads, 0, 0), 3);
        dueGroups(pads, 3, 91, 80, 70, 60, 50, 40, 32);
        Checks.drill(pads, "r1;l1");
        checks.due("multiples of 1", Checks.letter(pads, 0, 0, 0), 4);
        dueGroups(pads, 4, 0);
    }

    private static void promise8Refused() {
        BurntPads pads = padsWithWords();
        Checks.fill(pads, 0, Checks.BYTES, 0, 1, 4, 30, -1);
        checks.dueWithFault(pads, "page 1", pads.letter(1, 100, 0, 3, 0, 1), BurntPads.UNKNOWN, 0);
        checks.dueWithFault(pads, "page -1", pads.letter(-1, 0, 0, 0, 0, 1), BurntPads.UNKNOWN, 0);
        checks.dueWithFault(pads, "another lane", pads.letter(0, 0, 0, 1, -1, -1), Checks.CAST, 2);
        checks.dueWithFault(pads, "sheet 4", pads.letter(0, 100, 4, 3, 0, 1), BurntPads.UNKNOWN, 0);
        checks.dueWithFault(pads, "nothing", pads.letter(0, 0, 1, 1, -1, -1), Checks.NULL, 1);
        checks.dueWithFault(pads, "day 100", pads.letter(0, 100, 1, 1, 0, 1), BurntPads.OUTSIDE, 0);
        checks.dueWithFault(pads, "day -1", pads.letter(0, -1, 0, 0, 0, 1), BurntPads.OUTSIDE, 0);
        checks.dueWithFault(pads, "lane 3", pads.letter(0, 0, 1, 3, 0, 1), BurntPads.OUTSIDE, 0);
        checks.dueWithFault(pads, "n -1", pads.letter(0, 0, 0, 0, -1, -1), Checks.SIZE, 4);
        checks.dueWithFault(pads, "i 6, n 0", pads.letter(0, 0, 0, 0, 6, 0), Checks.INDEX, 3);
        checks.dueWithFault(pads, "a word without a code", pads.letter(0, 0, 0, 0, 0, 3), BurntPads.UNKNOWN, 0);
        checks.dueWithFault(pads, "i 4, n 2", pads.letter(0, 0, 0, 0, 4, 2), Checks.INDEX, 3);
        checks.dueWithFault(pads, "word 30", pads.letter(0, 0, 0, 0, 3, 1), BurntPads.UNKNOWN, 0);
        checks.dueWithFault(pads, "word -1", pads.letter(0, 0, 0, 0, 4, 1), BurntPads.UNKNOWN, 0);
        checks.dueWithFault(pads, "nothing laid", pads.letter(0, 0, 0, 0, 5, 0), BurntPads.STATE, 0);
        checks.due("not burnt", pads.ofPage(0, 4), 0);
        checks.due("many(2)", pads.many(2), 0);
    }

    private static void promise8State() {
        BurntPads pads = padsWithWords();
        checks.due("nine on eight", Checks.letter(pads, 0, 0, new int[9]), BurntPads.STATE);
        checks.due("sixty on eight", Checks.letter(pads, 0, 0, new int[60]), BurntPads.STATE);
        checks.due("eight on eight", Checks.letter(pads, 0, 0, new int[8]), 0);
        checks.due("burnt", Checks.letter(pads, 0, 0, 0), BurntPads.STATE);
        checks.due("burnt, a word without a code", Checks.letter(pads, 0, 0, 4), BurntPads.UNKNOWN);
        Checks.drill(pads, "r0");
        checks.due("burnt, r0", Checks.letter(pads, 0, 0, 0), BurntPads.STATE);
        Checks.drill(pads, "r1");
        checks.due("burnt, r1", Checks.letter(pads, 0, 0, 0), 1);
        Checks.page(pads, 1, 0, 1, 2, 3);
        checks.due("three on a short one of three", Checks.letter(pads, 1, 0, 0, 1, 2), BurntPads.STATE);
        checks.due("two on a short one of three", Checks.letter(pads, 1, 0, 0, 1), 2);
        Checks.page(pads, 2, 0, 1, 2, 3);
        checks.due("two on a torn one of three", Checks.letter(pads, 2, 0, 0, 1), BurntPads.STATE);
        checks.due("one on a torn one of three", Checks.letter(pads, 2, 0, 0), 3);
        Checks.page(pads, 2, 0, 1, 2);
        checks.due("one on a torn one of two", Checks.letter(pads, 3, 0, 0), BurntPads.STATE);
        Checks.drill(pads, "r1;c;l6");
        checks.due("seven on eight", Checks.letter(pads, 0, 0, 0), 4);
        checks.due("thirteen on eight", Checks.letter(pads, 0, 0, new int[7]), BurntPads.STATE);
    }

    private static void promise8Full() {
        BurntPads pads = padsWithWords();
        Checks.drill(pads, "r1");
        for (int x = 0; x < 20; x++) {
            checks.due("letter " + x, Checks.letter(pads, 0, x, 0), x);
        }
        checks.due("letter 20", Checks.letter(pads, 0, 0, 0), BurntPads.FULL);
        checks.due("letter 20, nothing laid", Checks.letter(pads, 0, 0), BurntPads.STATE);
        checks.due("many(2)", pads.many(2), 20);
        checks.due("ofPage(0, 5)", pads.ofPage(0, 5), 20);
        checks.due("ofLetter(19, 1)", pads.ofLetter(19, 1), 19);
    }

    private static void promise9OfLetter() {
        BurntPads pads = padsWithWords();
        Checks.page(pads, 0, 0, 1, 2);
        Checks.letter(pads, 1, 99, 1, 0);
        int[] asTold = {1, 99, 2};
        for (int what = 0; what < asTold.length; what++) {
            checks.due("ofLetter(0, " + what + ")", pads.ofLetter(0, what), asTold[what]);
        }
        dueGroups(pads, 0, 26, 12);
        pads.code(1, 77);
        dueGroups(pads, 0, 26, 12);
        for (int what : new int[] {-1, 3, 9, 12, Integer.MAX_VALUE, Integer.MIN_VALUE}) {
            checks.due("ofLetter(0, " + what + ")", pads.ofLetter(0, what), BurntPads.OUTSIDE);
        }
        checks.due("ofLetter(1, 99)", pads.ofLetter(1, 99), BurntPads.UNKNOWN);
        checks.due("ofLetter(-1, 0)", pads.ofLetter(-1, 0), BurntPads.UNKNOWN);
    }

    private static void dueWords(BurntPads pads, int letter, int page, int... words) {
        checks.due("words of " + letter + " with " + page, pads.read(letter, page, -1), words.length);
        for (int k = 0; k <= 11; k++) {
            int want = k < words.length ? words[k] : BurntPads.NONE;
            checks.due("word " + k + " of " + letter + " with " + page, pads.read(letter, page, k), want);
        }
    }

    private static void promise10Words() {
        BurntPads pads = padsWithWords();
        Checks.drill(pads, "b42;l5;c;r1");
        Checks.letter(pads, 0, 0, 2, 0, 1);
        dueWords(pads, 0, 0, 2, 0, 1);
        pads.code(29, 0);
        dueWords(pads, 0, 0, 2, 0, 1, 29);
        pads.code(0, -1);
        dueWords(pads, 0, 0, 2, 1, 29);
        pads.code(0, 42);
        dueWords(pads, 0, 0, 2, 1, 29);
        Checks.drill(pads, "");
        dueWords(pads, 0, 0, 0, 2, 1, 29);
        Checks.drill(pads, "r1");
        Checks.page(pads, 0, 0, row(12, 94));
        Checks.letter(pads, 1, 0, 3, 2, 1, 3, 2, 1, 3, 2, 1, 3, 2, 1);
        dueWords(pads, 1, 1, 3, 2, 1, 3, 2, 1, 3, 2, 1, 3, 2, 1);
    }

    private static void dueWrong(BurntPads pads, int letter, int page) {
        for (int k = -1; k <= 11; k++) {
            checks.due("read(" + letter + ", " + page + ", " + k + ")", pads.read(letter, page, k), BurntPads.STATE);
        }
    }

    private static void promise10Wrong() {
        BurntPads pads = padsWithWords();
        Checks.drill(pads, "b42;c");
        Checks.letter(pads, 0, 0, 0, 1);
        Checks.page(pads, 0, 0, 91, 80, 70, 60);
        Checks.page(pads, 0, 0, 90, 80, 70, 61);
        Checks.page(pads, 0, 0, 90, 81, 70, 60);
        Checks.page(pads, 0, 0, 90, 80, 70);
        Checks.page(pads, 1, 0, 90, 80, 70, 60);
        Checks.page(pads, 1, 0, 90, 80, 70, 60, 1);
        Checks.page(pads, 2, 0, 90, 80, 70, 60, 1);
        Checks.page(pads, 2, 0, 90, 80, 70, 60, 1, 2);
        dueWrong(pads, 0, 1);
        dueWrong(pads, 0, 2);
        dueWrong(pads, 0, 3);
        dueWrong(pads, 0, 4);
        dueWrong(pads, 0, 5);
        dueWords(pads, 0, 6, 0, 1);
        dueWrong(pads, 0, 7);
        dueWords(pads, 0, 8, 0, 1);
        Checks.drill(pads, "c;r1");
        Checks.letter(pads, 0, 0, 0, 3);
        dueWords(pads, 1, 0, 0, 3);
        dueWrong(pads, 1, 1);
        dueWrong(pads, 1, 3);
        Checks.drill(pads, "");
        dueWords(pads, 0, 1, 0, 1);
        dueWords(pads, 0, 3, 1);
        dueWrong(pads, 0, 4);
    }

    private static void promise10DrillAsItIsNow() {
        BurntPads pads = padsWithWords();
        Checks.letter(pads, 0, 0, 0);
        dueWords(pads, 0, 0, 0);
        Checks.drill(pads, "c");
        dueWrong(pads, 0, 0);
        Checks.drill(pads, "b10");
        dueWords(pads, 0, 0);
        Checks.drill(pads, "b10;c");
        dueWrong(pads, 0, 0);
        Checks.drill(pads, "b11");
        dueWrong(pads, 0, 0);
        pads.code(4, 0);
        Checks.drill(pads, "r1");
        Checks.letter(pads, 0, 0, 4);
        Checks.drill(pads, "b0;c");
        dueWords(pads, 1, 0);
        Checks.drill(pads, "c");
        dueWords(pads, 1, 0);
        Checks.drill(pads, "l6");
        dueWords(pads, 1, 0, 4);
    }

    private static void promise10Refused() {
        BurntPads pads = padsWithWords();
        Checks.letter(pads, 0, 0, 0);
        Checks.drill(pads, "b99");
        checks.due("read(1, 0, 0)", pads.read(1, 0, 0), BurntPads.UNKNOWN);
        checks.due("read(-1, 0, 0)", pads.read(-1, 0, 0), BurntPads.UNKNOWN);
        checks.due("read(0, 1, 0)", pads.read(0, 1, 0), BurntPads.UNKNOWN);
        checks.due("read(0, -1, 0)", pads.read(0, -1, 0), BurntPads.UNKNOWN);
        checks.due("read(0, 0, -2)", pads.read(0, 0, -2), BurntPads.UNKNOWN);
        checks.due("read(0, 0, 12)", pads.read(0, 0, 12), BurntPads.UNKNOWN);
        checks.due("read(0, 0, 11)", pads.read(0, 0, 11), BurntPads.STATE);
        checks.due("reading burns nothing", pads.ofPage(0, 5), 1);
    }
}
