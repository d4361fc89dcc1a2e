/** Part 2 and promises 6 to 10. */
final class EdgesOfPages extends Edges {
    EdgesOfPages(Checks checks, Quotes quotes) {
        super(checks, quotes);
    }

    @Override
    void hold() {
        pagesEver();
        sizesOfPages();
        groupsOfPages();
        pageRefused();
        pageRefusedWhereFull();
        mayBeUsed();
        ofPage();
        hidden();
        burnt();
        laid();
        checks();
        sizesLaid();
        letterState();
        letterRefused();
        lettersEver();
        letterRefusedWhereFull();
        ofLetter();
        readOff();
        readWrongBeginning();
        readTooLong();
        readWrongCheck();
        readWords();
        readRefused();
    }

    // ---- PAGES

    private void pagesEver() {
        Run run = run("PAGES, 24 ever, numbered as they come, of a kind: 0 PAGE; 1 SHORT, a PAGE; 2 TORN, a SHORT:");
        run.does("sheet(0, 0, 1)", 1);
        for (int p = 0; p < 24; p++) {
            run.still("ofPage(%d, 0)".formatted(p), UNKNOWN);
            run.does("page(%d, %d, 0, 0, 0, 1)".formatted(p % 3, p % 6), p);
            run.still("ofPage(%d, 0)".formatted(p), p % 3).still("ofPage(%d, 1)".formatted(p), p % 6);
            run.still("many(1)", p + 1);
        }
        run.still("page(0, 0, 0, 0, 0, 1)", FULL).still("many(1)", 24).still("ofPage(24, 0)", UNKNOWN);
    }

    private void sizesOfPages() {
        Run run = run("1 to 12 GROUPS, at a POST (0 .. 5).").does("sheet(0, 0, 60)", 1);
        for (int size = 1; size <= 12; size++) {
            run.does("page(0, 5, 0, 0, 0, %d)".formatted(size), size - 1);
            run.still("ofPage(%d, 2)".formatted(size - 1), size);
        }
        run.stillEach("page(0, 5, 0, 0, 0, %d)", OUTSIDE, 0, 13, 60);
        run.stillEach("page(0, 5, 0, 0, 60, %d)", OUTSIDE, 0);
        run.stillEach("page(0, %d, 0, 0, 0, 1)", UNKNOWN, -1, 6, MIN, MAX);
    }

    private void groupsOfPages() {
        run("GROUPS are numbers 0 .. 99;").fill(0, INTS, 0, 99, 100, 0, -1, 99, MAX, MIN, 256)
            .does("page(0, 0, 0, 2, 0, 2)", 0).still("ofPage(0, 10)", 0).still("ofPage(0, 11)", 99)
            .stillEach("page(0, 0, 0, 2, %d, 1)", OUTSIDE, 2, 4, 6, 7, 8)
            .stillEach("page(0, 0, 0, 2, %d, 2)", OUTSIDE, 1, 2, 3, 4)
            .stillEach("page(0, 0, 0, 2, %d, 3)", OUTSIDE, 1, 3)
            .does("page(0, 0, 0, 2, 3, 1)", 1).does("page(0, 0, 0, 2, 5, 1)", 2).still("ofPage(2, 10)", 99);
        run("`int page(int kind, int post, int sheet, int lane, int i, int n)`: A PAGE of n such cells at a POST: its"
            + " number.")
            .fill(0, BYTES, 7, 256 + 99, 8, 9).does("page(2, 4, 0, 0, 1, 2)", 0).still("ofPage(0, 10)", 99)
            .still("ofPage(0, 11)", 8).does("put(0, 1, 5)", 1).does("lose(0)", 1).still("ofPage(0, 10)", 99)
            .still("ofPage(0, 12)", OUTSIDE).still("ofPage(0, 0)", 2).still("ofPage(0, 1)", 4);
    }

    private static final String PAGE_REFUSED = "UNKNOWN: SHEET, POST; OUTSIDE: kind, lane; CAST; NULL; SIZE; INDEX;"
        + " OUTSIDE: n is not 1 .. 12, a GROUP; FULL.";

    /** SHEET 0: thirteen shorts that are GROUPS, and one that is none; SHEET 1: nothing; SHEET 2: no ints. */
    private static void refusePages(Run run) {
        run.stillEach("page(3, 0, %d, 3, -1, -1)", UNKNOWN, -1, 4, MIN, MAX);
        run.stillEach("page(0, 0, %d, 1, 0, 1)", UNKNOWN, -1, 4);
        run.stillEach("page(3, %d, 0, 3, -1, -1)", UNKNOWN, -1, 6, MIN, MAX);
        run.stillEach("page(0, %d, 1, 1, -1, -1)", UNKNOWN, -1, 6);
        run.stillEach("page(%d, 0, 0, 3, -1, -1)", OUTSIDE, -1, 3, MIN, MAX);
        run.stillEach("page(%d, 0, 1, 1, -1, -1)", OUTSIDE, -1, 3);
        run.stillEach("page(%d, 0, 0, 0, -1, -1)", OUTSIDE, -1, 3);
        refuseCells(run, "page(0, 0, ", SHORTS, 14);
        run.stillEach("page(0, 0, 0, 1, %d, 0)", OUTSIDE, 0, 14);
        run.stillEach("page(0, 0, 0, 1, 0, %d)", OUTSIDE, 13, 14);
        run.stillEach("page(0, 0, 0, 1, 13, %d)", OUTSIDE, 1);
        run.stillEach("page(0, 0, 0, 1, 2, %d)", OUTSIDE, 12);
        run.still("page(0, 0, 2, 2, 0, 0)", OUTSIDE);
    }

    private void pageRefused() {
        Run run = run(PAGE_REFUSED).does("sheet(0, 1, 14)", 1).does("put(0, 13, 100)", 1).does("sheet(2, 2, 0)", 1);
        refusePages(run);
        run.does("page(0, 0, 0, 1, 0, 12)", 0).does("page(2, 5, 0, 1, 12, 1)", 1);
    }

    private void pageRefusedWhereFull() {
        Run run = run(PAGE_REFUSED).does("sheet(0, 1, 14)", 1).does("put(0, 13, 100)", 1).does("sheet(2, 2, 0)", 1);
        for (int p = 0; p < 24; p++) {
            run.does("page(0, 0, 0, 1, 0, 1)", p);
        }
        refusePages(run);
        run.stillEach("page(0, 0, 0, 1, 0, %d)", FULL, 1, 12);
    }

    private void mayBeUsed() {
        Run run = run("Of a PAGE all may be used, of a SHORT one all but the last, of a TORN one all but the last two"
            + " (none, if there are no more).");
        run.does("sheet(0, 0, 12)", 1).does("code(0, 5)", NONE);
        int[][] asDue = {{0, 1, 1}, {0, 2, 2}, {0, 12, 12}, {1, 1, 0}, {1, 2, 1}, {1, 3, 2}, {1, 12, 11}, {2, 1, 0},
            {2, 2, 0}, {2, 3, 1}, {2, 4, 2}, {2, 12, 10}};
        for (int p = 0; p < asDue.length; p++) {
            int usable = asDue[p][2];
            run.does("page(%d, 0, 0, 0, 0, %d)".formatted(asDue[p][0], asDue[p][1]), p);
            run.still("ofPage(%d, 3)".formatted(p), usable);
            if (usable < 12) {
                run.still("letter(%d, 0, 0, 0, 0, %d)".formatted(p, usable + 1), STATE);
            }
        }
    }

    private void ofPage() {
        run("Of a PAGE: 0 kind, 1 POST, 2 how many GROUPS, 3 how many may be used, 4 whether it is BURNT (1, 0), 5 how"
            + " many LETTERS have it, 10 and k: its k-th GROUP. UNKNOWN; OUTSIDE.")
            .does("code(0, 1)", NONE).text("r1").fill(0, BYTES, 3, 1, 4, 15, 9, 2, 6, 5, 35, 8, 97, 93)
            .does("page(1, 5, 0, 0, 0, 12)", 0).does("page(2, 3, 0, 0, 11, 1)", 1)
            .still("ofPage(0, 0)", 1).still("ofPage(0, 1)", 5).still("ofPage(0, 2)", 12).still("ofPage(0, 3)", 11)
            .still("ofPage(0, 4)", 0).still("ofPage(0, 5)", 0).still("ofPage(0, 10)", 3).still("ofPage(0, 21)", 93)
            .stillEach("ofPage(0, %d)", OUTSIDE, -1, 6, 7, 8, 9, 22, MIN, MIN + 10, MAX)
            .still("ofPage(1, 10)", 93).stillEach("ofPage(1, %d)", OUTSIDE, 11, 21)
            .stillEach("ofPage(%d, 0)", UNKNOWN, -1, 2, 23, 24, MIN, MAX)
            .stillEach("ofPage(2, %d)", UNKNOWN, -1, 6, 22)
            .letter(0, 0, 0).still("ofPage(0, 4)", 1).still("ofPage(0, 5)", 1)
            .letter(1, 0, 0).still("ofPage(0, 4)", 1).still("ofPage(0, 5)", 2).still("ofPage(1, 4)", 0)
            .still("ofPage(1, 5)", 0);
    }

    // ---- LETTERS

    private void hidden() {
        run("hidden with a PAGE: its k-th GROUP added to the k-th that was LAID.").does("code(0, 0)", NONE)
            .does("code(1, 1)", NONE).does("code(2, 99)", NONE).page(0, 0, 0, 99, 99, 0, 99, 1)
            .letter(0, 0, 0, 0, 1, 2, 2, 2).groups(0, 0, 99, 0, 99, 98, 0);
        run("they are added, taken off by the rest by 100 (0 .. 99).").does("code(0, 0)", NONE).does("code(1, 1)", NONE)
            .does("code(2, 99)", NONE).page(0, 0, 99, 99, 1).letter(0, 0, 1, 2, 2).groups(0, 0, 98, 0)
            .still("read(0, 0, -1)", 3).still("read(0, 0, 0)", 1).still("read(0, 0, 1)", 2).still("read(0, 0, 2)", 2);
        run("`int letter(int p, int day, int sheet, int lane, int i, int n)`: A LETTER of n such cells (WORDS) on a"
            + " DAY, hidden with a PAGE: its number.").does("code(0, 30)", NONE).does("code(29, 40)", NONE)
            .page(0, 0, 0, 0, 0, 0).fill(0, INTS, 9, 29, 0, 9).does("letter(0, 7, 0, 2, 1, 2)", 0).groups(0, 40, 30)
            .does("put(0, 1, 0)", 1).does("code(29, 41)", 40).does("lose(0)", 1).groups(0, 40, 30)
            .still("ofLetter(0, 0)", 0).still("ofLetter(0, 1)", 7);
    }

    private void burnt() {
        run("A PAGE that was used is BURNT.").does("code(0, 30)", NONE).page(0, 0, 1, 2).page(1, 0, 1, 2)
            .still("letter(0, 0, 2, 0, 0, 1)", NULL).still("ofPage(0, 4)", 0).letter(STATE, 0, 0, 0, 0)
            .still("ofPage(0, 4)", 0).letter(0, 0, 0).still("ofPage(0, 4)", 1).still("ofPage(1, 4)", 0)
            .still("letter(0, 0, 3, 0, 0, 1)", STATE).letter(1, 1, 0).still("ofPage(1, 4)", 1);
        run("STATE: the PAGE is BURNT and r is 0").does("code(0, 30)", NONE).page(0, 0, 1, 2).letter(0, 0, 0)
            .fill(0, BYTES, 0).still("letter(0, 0, 0, 0, 0, 1)", STATE).text("r1").does("letter(0, 0, 0, 0, 0, 1)", 1)
            .text("r0").still("letter(0, 0, 0, 0, 0, 1)", STATE).text("c").still("letter(0, 0, 0, 0, 0, 1)", STATE)
            .text("c;r1").does("letter(0, 0, 0, 0, 0, 1)", 2).still("ofPage(0, 5)", 3);
    }

    private void laid() {
        Run run = run("A letter of WORDS is LAID so: b's GROUP, if there is one; the CODES of its WORDS; if l is told,"
            + " as many GROUPS 0 as make all so far a multiple of l;");
        run.does("code(0, 30)", NONE).does("code(1, 99)", NONE).does("sheet(3, 0, 12)", 1)
            .does("page(0, 0, 3, 0, 0, 12)", 0);
        run.text("r1").letter(0, 0, 1, 0).groups(0, 99, 30);
        run.text("r1;b0").letter(1, 0, 1, 0).groups(1, 0, 99, 30);
        run.text("r1;b99").letter(2, 0, 1).groups(2, 99, 99);
        run.text("r1;l6").letter(3, 0, 1, 0).groups(3, 99, 30, 0, 0, 0, 0);
        run.text("r1;l2").letter(4, 0, 1, 0).groups(4, 99, 30);
        run.text("r1;l2;b7").letter(5, 0, 1, 0).groups(5, 7, 99, 30, 0);
        run.text("r1;l3;b7").letter(6, 0, 1, 0).groups(6, 7, 99, 30);
        run.text("r1;l1").letter(7, 0, 1).groups(7, 99);
    }

    private void checks() {
        Run run = run("if c is told, THE CHECK of all these: the sum of each times (its place, from 1 on, and one), the"
            + " rest by 100.");
        run.does("code(0, 30)", NONE).does("code(1, 99)", NONE).does("code(2, 50)", NONE).does("sheet(3, 0, 12)", 1)
            .does("page(0, 0, 3, 0, 0, 12)", 0);
        // 30 * 2
        run.text("r1;c").letter(0, 0, 0).groups(0, 30, 60);
        // 50 * 2 = 100
        run.letter(1, 0, 2).groups(1, 50, 0);
        // 99 * 2 = 198
        run.letter(2, 0, 1).groups(2, 99, 98);
        // 30 * 2 + 99 * 3 = 357
        run.letter(3, 0, 0, 1).groups(3, 30, 99, 57);
        // nothing ahead of it
        run.letter(4, 0).groups(4, 0);
        // 7 * 2 + 99 * 3 = 311
        run.text("r1;c;b7").letter(5, 0, 1).groups(5, 7, 99, 11);
        // 1 * 2 + 99 * 3 + 30 * 4 = 419, and what l adds is behind them, ahead of the check
        run.text("r1;c;b1;l4").letter(6, 0, 1, 0).groups(6, 1, 99, 30, 0, 19);
        // 99 * (2 + .. + 12) = 7623
        run.text("r1;c").letter(7, 0, 1, 1, 1, 1, 1, 1, 1, 1, 1, 1, 1)
            .groups(7, 99, 99, 99, 99, 99, 99, 99, 99, 99, 99, 99, 23);
    }

    /** All multiples, with and without b, with and without c, as far as they go on a PAGE of twelve. */
    private void sizesLaid() {
        for (int multiple = 1; multiple <= 6; multiple++) {
            for (String more : new String[] {"", ";b1", ";c", ";b1;c"}) {
                Run run = run("if l is told, as many GROUPS 0 as make all so far a multiple of l;")
                    .does("code(0, 9)", NONE)
                    .text("r1;l" + multiple + more).does("sheet(0, 0, 13)", 1).does("page(0, 0, 0, 0, 0, 12)", 0);
                int letters = 0;
                for (int words = 0; words <= 13; words++) {
                    int size = words + (more.contains("b") ? 1 : 0);
                    while (size % multiple != 0) {
                        size++;
                    }
                    size += more.contains("c") ? 1 : 0;
                    String call = "letter(0, 0, 0, 0, 0, " + words + ")";
                    if (size < 1 || size > 12) {
                        run.still(call, STATE);
                    } else {
                        run.does(call, letters).still("ofLetter(%d, 2)".formatted(letters), size);
                        letters++;
                    }
                }
            }
        }
    }

    private void letterState() {
        String more = "or what is LAID is more than may be used of it, or nothing; FULL.";
        run(more).does("code(0, 9)", NONE).does("sheet(0, 0, 60)", 1).does("page(0, 0, 0, 0, 0, 12)", 0)
            .does("page(1, 0, 0, 0, 0, 1)", 1).does("page(2, 0, 0, 0, 0, 2)", 2)
            .stillEach("letter(0, 0, 0, 0, 0, %d)", STATE, 0, 13, 60)
            .stillEach("letter(1, 0, 0, 0, 0, %d)", STATE, 0, 1)
            .stillEach("letter(2, 0, 0, 0, 0, %d)", STATE, 0, 1).does("letter(0, 0, 0, 0, 0, 12)", 0);
        run(more).does("code(0, 9)", NONE).text("l6").does("sheet(0, 0, 60)", 1).does("page(0, 0, 0, 0, 0, 12)", 0)
            .stillEach("letter(0, 0, 0, 0, %d, 0)", STATE, 0, 60).stillEach("letter(0, 0, 0, 0, 0, %d)", STATE, 13)
            .does("letter(0, 0, 0, 0, 0, 7)", 0);
        run(more).does("code(0, 9)", NONE).text("l6;c").does("sheet(0, 0, 60)", 1).does("page(0, 0, 0, 0, 0, 12)", 0)
            .stillEach("letter(0, 0, 0, 0, 0, %d)", STATE, 7, 12).does("letter(0, 0, 0, 0, 0, 6)", 0);
        run(more).text("b5").does("sheet(0, 0, 12)", 1).does("page(0, 0, 0, 0, 0, 1)", 0)
            .does("letter(0, 0, 0, 0, 0, 0)", 0).groups(0, 5);
        run(more).text("c").does("sheet(0, 0, 12)", 1).does("page(0, 0, 0, 0, 0, 1)", 0)
            .does("letter(0, 0, 0, 0, 12, 0)", 0).groups(0, 0);
    }

    private static final String LETTER_REFUSED = "UNKNOWN: PAGE, SHEET; OUTSIDE: day, lane; CAST; NULL; SIZE; INDEX;"
        + " UNKNOWN: a WORD without a CODE; STATE: the PAGE is BURNT and r is 0, or what is LAID is more than may be"
        + " used of it, or nothing; FULL.";

    /** SHEET 0: the bytes 0, 1 (it has no CODE), 29, 30, -1; SHEET 1: nothing; SHEET 2: no ints; PAGE 0 alone. */
    private static void refuseLetters(Run run) {
        run.stillEach("letter(%d, 100, 0, 3, -1, -1)", UNKNOWN, -1, 1, 23, 24, MIN, MAX);
        run.stillEach("letter(%d, 0, 0, 0, 0, 1)", UNKNOWN, -1, 1);
        run.stillEach("letter(0, 100, %d, 3, -1, -1)", UNKNOWN, -1, 4, MIN, MAX);
        run.stillEach("letter(0, %d, 0, 3, -1, -1)", OUTSIDE, -1, 100, MIN, MAX);
        run.stillEach("letter(0, %d, 1, 0, -1, -1)", OUTSIDE, -1, 100);
        run.stillEach("letter(0, %d, 0, 1, -1, -1)", OUTSIDE, -1, 100);
        refuseCells(run, "letter(0, 0, ", BYTES, 5);
        run.stillEach("letter(0, 0, 0, 0, %d, 1)", UNKNOWN, 1, 3, 4);
        run.stillEach("letter(0, 0, 0, 0, %d, 2)", UNKNOWN, 0, 1, 2, 3);
        run.still("letter(0, 0, 0, 0, 0, 5)", UNKNOWN);
        run.stillEach("letter(0, 0, 0, 0, %d, 0)", STATE, 0, 5);
        run.still("letter(0, 0, 2, 2, 0, 0)", STATE);
    }

    private static Run withWordsOfLetters(Run run) {
        return run.does("code(0, 10)", NONE).does("code(29, 20)", NONE).fill(0, BYTES, 0, 1, 29, 30, -1)
            .does("sheet(2, 2, 0)", 1).does("sheet(3, 0, 2)", 1).does("page(0, 0, 3, 0, 0, 2)", 0);
    }

    private void letterRefused() {
        Run run = withWordsOfLetters(run(LETTER_REFUSED));
        refuseLetters(run);
        run.does("letter(0, 99, 0, 0, 2, 1)", 0);
        refuseLetters(run);
        run.stillEach("letter(0, 0, 0, 0, %d, 1)", STATE, 0, 2);
    }

    private void lettersEver() {
        Run run = run("LETTERS, 20 ever, numbered as they come, each on a DAY (0 .. 99):").does("code(0, 9)", NONE)
            .text("r1").does("sheet(0, 0, 2)", 1).does("page(0, 0, 0, 0, 0, 2)", 0).does("page(0, 0, 0, 0, 0, 1)", 1);
        for (int x = 0; x < 20; x++) {
            int day = x == 19 ? 99 : x * 5;
            run.still("ofLetter(%d, 0)".formatted(x), UNKNOWN);
            run.does("letter(%d, %d, 0, 0, 0, 1)".formatted(x % 2, day), x);
            run.still("ofLetter(%d, 0)".formatted(x), x % 2).still("ofLetter(%d, 1)".formatted(x), day);
            run.still("many(2)", x + 1);
        }
        run.still("letter(0, 0, 0, 0, 0, 1)", FULL).still("many(2)", 20).still("ofLetter(20, 0)", UNKNOWN);
    }

    private void letterRefusedWhereFull() {
        Run run = withWordsOfLetters(run(LETTER_REFUSED)).text("r1");
        for (int x = 0; x < 20; x++) {
            run.does("letter(0, 0, 0, 0, 0, 1)", x);
        }
        refuseLetters(run);
        run.stillEach("letter(0, 0, 0, 0, %d, 1)", FULL, 0, 2).stillEach("letter(0, %d, 0, 0, 0, 1)", FULL, 0, 99);
        run.does("sheet(3, 0, 3)", 1).still("letter(0, 0, 3, 0, 0, 3)", STATE).still("letter(0, 0, 3, 0, 0, 2)", FULL);
        run.text("r0").stillEach("letter(0, 0, 0, 0, %d, 1)", STATE, 0, 2);
    }

    private void ofLetter() {
        run("Of a LETTER: 0 PAGE, 1 DAY, 2 how many GROUPS, 10 and k: its k-th GROUP. UNKNOWN; OUTSIDE.")
            .does("code(0, 9)", NONE).text("r1").page(0, 0, 1).page(1, 0, 3, 1, 4, 15, 9, 2, 6, 5, 35, 8, 97, 93)
            .does("sheet(0, 0, 12)", 1).does("letter(1, 99, 0, 0, 0, 12)", 0).does("letter(0, 0, 0, 0, 0, 1)", 1)
            .still("ofLetter(0, 0)", 1).still("ofLetter(0, 1)", 99).still("ofLetter(0, 2)", 12)
            .still("ofLetter(1, 0)", 0).still("ofLetter(1, 1)", 0).still("ofLetter(1, 2)", 1)
            .groups(0, 12, 10, 13, 24, 18, 11, 15, 14, 44, 17, 6, 2).groups(1, 10)
            .stillEach("ofLetter(0, %d)", OUTSIDE, -1, 3, 4, 9, 22, MIN, MIN + 10, MAX)
            .stillEach("ofLetter(1, %d)", OUTSIDE, -1, 3, 9, 11, 21)
            .stillEach("ofLetter(%d, 0)", UNKNOWN, -1, 2, 19, 20, MIN, MAX)
            .stillEach("ofLetter(2, %d)", UNKNOWN, -1, 3, 22);
    }

    // ---- READ

    private void readOff() {
        String off = "READ with a PAGE: its GROUPS taken off, from the first on, as far as both go.";
        run(off).does("code(0, 0)", NONE).does("code(1, 1)", NONE).does("code(2, 99)", NONE).page(0, 0, 50, 99, 0, 7)
            .letter(0, 0, 0, 1, 2).page(1, 0, 50, 98, 1, 7).still("read(0, 0, -1)", 3).still("read(0, 0, 0)", 0)
            .still("read(0, 0, 1)", 1).still("read(0, 0, 2)", 2).still("read(0, 0, 3)", NONE)
            .still("read(0, 1, -1)", 1).still("read(0, 1, 0)", 0).still("read(0, 1, 1)", NONE);
    }

    /** A LETTER of the GROUPS 42, 10, 43, 7 and PAGES of 0 alone, of each size. */
    private Run withLetter(String sentence) {
        Run run = run(sentence).does("code(0, 42)", NONE).does("code(1, 10)", NONE).does("code(2, 43)", NONE)
            .does("code(3, 7)", NONE).does("sheet(0, 0, 12)", 1);
        for (int size = 1; size <= 8; size++) {
            run.does("page(0, 0, 0, 0, 0, %d)".formatted(size), size - 1);
        }
        return run.letter(0, 3, 0, 1, 2, 3);
    }

    private void readWrongBeginning() {
        withLetter("If b is told (as THE DRILL is now), and the first one is not it,").still("read(0, 3, -1)", 4)
            .text("b42").still("read(0, 3, -1)", 3).still("read(0, 3, 0)", 1)
            .text("b41").stillEach("read(0, 3, %d)", STATE, -1, 0, 11)
            .text("b43").stillEach("read(0, 3, %d)", STATE, -1, 0, 11)
            .text("b0").still("read(0, 3, -1)", STATE)
            .text("l6;r1").still("read(0, 3, -1)", 4);
        run("If b is told (as THE DRILL is now), and the first one is not it,").does("code(0, 10)", NONE)
            .page(0, 0, 3, 4).text("b0").letter(0, 0, 0).still("read(0, 0, -1)", 1).page(1, 0, 2, 4).page(2, 0, 3, 5)
            .still("read(0, 1, -1)", STATE).still("read(0, 2, -1)", 0).text("b1").still("read(0, 0, -1)", STATE)
            .still("read(0, 1, -1)", 1);
    }

    private void readTooLong() {
        Run run = withLetter("or the LETTER is longer than what may be used of the PAGE,");
        for (int p = 0; p < 8; p++) {
            run.still("read(0, %d, -1)".formatted(p), p < 3 ? STATE : 4);
        }
        run.does("page(1, 0, 0, 0, 0, 4)", 8).does("page(1, 0, 0, 0, 0, 5)", 9).does("page(2, 0, 0, 0, 0, 5)", 10)
            .does("page(2, 0, 0, 0, 0, 6)", 11).does("page(2, 0, 0, 0, 0, 1)", 12)
            .still("read(0, 8, -1)", STATE).still("read(0, 9, -1)", 4).still("read(0, 10, -1)", STATE)
            .still("read(0, 11, -1)", 4).still("read(0, 12, -1)", STATE)
            .stillEach("read(0, 2, %d)", STATE, 0, 3, 4, 11);
    }

    private void readWrongCheck() {
        String wrong = "or c is told and the last one is not THE CHECK of all ahead of it: it is WRONG.";
        // 42 * 2 + 10 * 3 + 43 * 4 = 286
        withLetter(wrong).text("c").stillEach("read(0, 3, %d)", STATE, -1, 0, 3, 11);
        withLetter(wrong).text("c;r1").letter(1, 3, 0, 1, 2).groups(1, 42, 10, 43, 86).still("read(1, 3, -1)", 3)
            .still("read(1, 3, 2)", 2).still("read(1, 3, 3)", NONE).page(8, 0, 0, 0, 0, 1).page(9, 0, 0, 0, 1, 0)
            .page(10, 0, 99, 0, 0, 0).page(11, 0, 50, 0, 0, 0).stillEach("read(1, %d, -1)", STATE, 8, 9, 10)
            .still("read(1, 11, -1)", 2).text("b42;c").still("read(1, 3, -1)", 2).still("read(1, 11, -1)", STATE);
        run(wrong).does("code(0, 0)", NONE).does("code(1, 1)", NONE).page(0, 0, 0).page(1, 0, 0).page(2, 0, 99)
            .letter(0, 0, 0).letter(1, 1, 1).text("c").still("read(0, 0, -1)", 0).still("read(0, 0, 0)", NONE)
            .still("read(1, 1, -1)", STATE).still("read(0, 2, -1)", STATE).text("b0;c").still("read(0, 0, -1)", 0)
            .still("read(0, 0, 0)", NONE).text("b1;c").still("read(1, 1, -1)", STATE).still("read(0, 2, -1)", STATE);
    }

    private void readWords() {
        String words = "WORDS: of those behind b's, ahead of c's (if these are told), all that are some WORD's CODE, in"
            + " order.";
        withLetter(words).does("code(1, -1)", 10).still("read(0, 3, -1)", 3).still("read(0, 3, 0)", 0)
            .still("read(0, 3, 1)", 2).still("read(0, 3, 2)", 3).still("read(0, 3, 3)", NONE)
            .does("code(29, 10)", NONE).still("read(0, 3, 1)", 29).text("b42").still("read(0, 3, 0)", 29)
            .still("read(0, 3, -1)", 3).does("code(0, -1)", 42).does("code(2, -1)", 43).does("code(3, -1)", 7)
            .does("code(29, -1)", 10).still("read(0, 3, -1)", 0).still("read(0, 3, 0)", NONE);
        // what l has added is read as any other GROUP
        run(words).does("code(0, 10)", NONE).page(0, 0, 1, 2, 3, 4, 5).text("b7;l4;c").letter(0, 0, 0)
            .still("read(0, 0, -1)", 1).does("code(5, 0)", NONE).still("read(0, 0, -1)", 3).still("read(0, 0, 0)", 0)
            .still("read(0, 0, 1)", 5).still("read(0, 0, 2)", 5).still("read(0, 0, 3)", NONE);
    }

    private void readRefused() {
        String line = "READ with a PAGE: how many WORDS (k -1), the k-th one; NONE: there are fewer; STATE: it is"
            + " WRONG. UNKNOWN: LETTER, PAGE, k is not -1 .. 11.";
        run(line).does("code(5, 10)", NONE).does("sheet(0, 0, 12)", 1).does("page(0, 0, 0, 0, 0, 12)", 0)
            .fill(1, BYTES, 5, 5, 5, 5, 5, 5, 5, 5, 5, 5, 5, 5).does("letter(0, 0, 1, 0, 0, 12)", 0)
            .still("read(0, 0, -1)", 12).stillEach("read(0, 0, %d)", 5, 0, 1, 10, 11)
            .stillEach("read(0, 0, %d)", UNKNOWN, -2, 12, MIN, MAX)
            .stillEach("read(%d, 0, 0)", UNKNOWN, -1, 1, 19, 20, MIN, MAX)
            .stillEach("read(0, %d, 0)", UNKNOWN, -1, 1, 23, 24, MIN, MAX)
            .text("b10").still("read(0, 0, 10)", 5).still("read(0, 0, 11)", NONE)
            .text("c").stillEach("read(0, 0, %d)", STATE, -1, 0, 11);
    }
}
