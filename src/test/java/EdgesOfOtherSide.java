/** Part 4 and promises 15 to 22. */
final class EdgesOfOtherSide extends Edges {
    /** Their differences are all numbers but 50. */
    private static final int[] ALL_BUT_FIFTY = {0, 12, 23, 39, 42, 54, 74, 76, 82, 83, 87, 97};

    EdgesOfOtherSide(Checks checks, Quotes quotes) {
        super(checks, quotes);
    }

    @Override
    void hold() {
        besidePlaces();
        fits();
        sure();
        onePage();
        besideRefused();
        spread();
        chance();
        chanceRefused();
        best();
        bestOfTwenty();
        stripped();
        likeliest();
        stripRefused();
        with();
        withRefused();
        cribMeets();
        cribWithin();
        cribRefused();
        open();
    }

    /** LETTERS of these GROUPS: a PAGE of them hides WORD 0 as often, which has the CODE 0 for that long. */
    private Run sent(String sentence, int[]... letters) {
        Run run = run(sentence).does("code(0, 0)", NONE);
        for (int x = 0; x < letters.length; x++) {
            run.page(x, 0, letters[x]).letter(x, x, new int[letters[x].length]);
        }
        return run.does("code(0, -1)", 0);
    }

    private static int[] row(int... groups) {
        return groups;
    }

    /** WORDS from 0 on get these CODES; the run's own WORDS must have none. */
    private static Run book(Run run, int... codes) {
        for (int word = 0; word < codes.length; word++) {
            run.does("code(%d, %d)".formatted(word, codes[word]), NONE);
        }
        return run;
    }

    private void besidePlaces() {
        int[] sizes = {1, 2, 7, 8, 9, 12};
        int[][] letters = new int[sizes.length][];
        for (int x = 0; x < sizes.length; x++) {
            letters[x] = new int[sizes[x]];
        }
        Run run = sent("Two LETTERS laid beside one another, as far as both go (8 places at most):", letters);
        for (int a = 0; a < sizes.length; a++) {
            for (int b = 0; b < sizes.length; b++) {
                if (a != b) {
                    run.still("beside(%d, %d, 0)".formatted(a, b), Math.min(8, Math.min(sizes[a], sizes[b])));
                }
            }
        }
        // what lies beyond the eighth place does not count
        book(sent("(8 places at most)", row(4, 4, 4, 4, 4, 4, 4, 4, 0, 0), new int[12]), 10)
            .still("beside(0, 1, 1)", 0).still("beside(1, 0, 1)", 0).still("beside(0, 1, 3)", 0)
            .still("chance(0, 1, 0)", 1);
    }

    private void fits() {
        String fits = "a place FITS, if the GROUP of the first less that of the second is the CODE of some WORD less"
            + " that of some WORD (the same one, too).";
        Run run = sent(fits, row(1, 2, 3, 4, 99, 97, 96, 0), row(0, 0, 0, 0, 0, 0, 0, 0), row(0), row(99), row(50),
            row(49));
        run.still("beside(0, 1, 1)", 0).does("code(5, 50)", NONE).still("beside(0, 1, 1)", 1)
            .still("beside(2, 3, 1)", 0).does("code(5, -1)", 50);
        book(run, 10, 11, 13).still("beside(0, 1, 1)", 6).still("beside(1, 0, 1)", 6).still("beside(2, 3, 1)", 1)
            .still("beside(3, 2, 1)", 1).still("beside(4, 5, 1)", 1).still("beside(2, 4, 1)", 0);
        // 99 and 0 lie 1 apart, too
        book(sent(fits, row(1, 99, 2), row(0, 0, 0)), 99, 0).still("beside(0, 1, 1)", 2).still("beside(1, 0, 1)", 2);
    }

    private void sure() {
        Run run = sent("SURE places: with just one pair.", row(1, 2, 3, 4, 99, 97, 96, 0), new int[8], row(0), row(0));
        run.still("beside(0, 1, 3)", 0);
        book(run, 10, 11, 13).still("beside(0, 1, 3)", 5).still("beside(1, 0, 3)", 5).still("beside(2, 3, 3)", 0)
            .does("code(3, 14)", NONE).still("beside(0, 1, 3)", 3).does("code(3, 12)", 14).still("beside(0, 1, 3)", 2)
            .does("code(3, -1)", 12).does("code(2, -1)", 13).does("code(1, -1)", 11).still("beside(0, 1, 3)", 1)
            .still("beside(2, 3, 3)", 1).does("code(0, -1)", 10).still("beside(2, 3, 3)", 0);
    }

    private void onePage() {
        run("2 whether they have one PAGE (1, 0), 3 SURE places.").does("code(0, 0)", NONE).text("r1").page(0, 0, 1, 2)
            .page(1, 0, 1, 2).letter(0, 0, 0).letter(1, 1, 0).letter(2, 0, 0, 0).still("beside(0, 1, 2)", 0)
            .still("beside(0, 2, 2)", 1).still("beside(2, 0, 2)", 1).still("beside(1, 2, 2)", 0);
    }

    private void besideRefused() {
        sent("Of two LETTERS beside one another: 0 how many places, 1 how many FIT, 2 whether they have one PAGE (1,"
            + " 0), 3 SURE places. UNKNOWN; OUTSIDE: what, both are one.", row(1), row(2))
            .stillEach("beside(%d, 0, 4)", UNKNOWN, -1, 2, 19, 20, MIN, MAX)
            .stillEach("beside(0, %d, -1)", UNKNOWN, -1, 2, 19, 20, MIN, MAX)
            .stillEach("beside(%d, 2, 0)", UNKNOWN, 1, 2).stillEach("beside(0, 1, %d)", OUTSIDE, -1, 4, MIN, MAX)
            .stillEach("beside(1, 1, %d)", OUTSIDE, -1, 0, 1, 2, 3, 4).still("beside(0, 0, 0)", OUTSIDE)
            .still("beside(0, 1, 0)", 1).still("beside(1, 0, 3)", 0);
    }

    private void spread() {
        String spread = "SPREAD: how many numbers 0 .. 99 are so.";
        run(spread).still("spread()", 0).does("code(29, 99)", NONE).still("spread()", 1).does("code(0, 0)", NONE)
            .still("spread()", 3).does("code(0, 49)", 0).still("spread()", 2).does("code(0, 48)", 49)
            .still("spread()", 3)
            .does("code(0, -1)", 48).still("spread()", 1).does("code(29, -1)", 99).still("spread()", 0);
        Run thirty = run(spread);
        for (int word = 0; word < 30; word++) {
            thirty.does("code(%d, %d)".formatted(word, (word + 85) % 100), NONE);
            thirty.still("spread()", 2 * word + 1);
        }
        book(run("`int spread()`: SPREAD."), ALL_BUT_FIFTY).still("spread()", 99).does("code(29, 50)", NONE)
            .still("spread()", 100);
    }

    private static void dueChance(Run run, int a, int b, long upper, long lower) {
        run.still("chance(%d, %d, 0)".formatted(a, b), upper).still("chance(%d, %d, 1)".formatted(a, b), lower);
    }

    private void chance() {
        String chance = "CHANCE: of all rows of as many numbers the share in which as many places FIT, or more.";
        String least = "Shares are told as upper and lower number (above 0) in least terms.";
        Run run = sent(chance, new int[8], new int[12], row(50, 50, 50, 50, 50, 50, 50, 50), row(0, 50), row(50));
        dueChance(run, 0, 1, 1, 1);
        run.does("code(0, 7)", NONE);
        dueChance(run, 0, 1, 1, 10000000000000000L);
        dueChance(run, 1, 0, 1, 10000000000000000L);
        dueChance(run, 0, 2, 1, 1);
        dueChance(run, 0, 3, 199, 10000);
        dueChance(run, 2, 4, 1, 100);
        dueChance(run, 0, 4, 1, 1);
        run.does("code(1, 57)", NONE);
        dueChance(run, 0, 2, 1, 39062500000000L);
        dueChance(run, 0, 4, 1, 50);
        dueChance(run, 0, 3, 1, 2500);
        Run most = book(sent(chance, new int[8], row(50, 50, 50, 50, 50, 50, 50, 0), new int[9]), ALL_BUT_FIFTY);
        dueChance(most, 0, 1, 9999999999999999L, 10000000000000000L);
        dueChance(most, 0, 2, 9227446944279201L, 10000000000000000L);
        most.does("code(29, 50)", NONE);
        dueChance(most, 0, 1, 1, 1);
        Run some = book(sent(least, row(0, 0, 0), row(1, 2, 4), row(1, 4, 4)), 10, 11, 13);
        dueChance(some, 0, 1, 7007, 500000);
        dueChance(some, 0, 2, 195643, 1000000);
    }

    private void chanceRefused() {
        sent("`long chance(int a, int b, int which)`: CHANCE of two LETTERS. LOST: UNKNOWN; OUTSIDE: which, both are"
            + " one.",
            row(1), row(2)).stillEach("chance(%d, 0, 0)", LOST, -1, 2, 19, 20, MIN, MAX)
            .stillEach("chance(0, %d, 0)", LOST, -1, 2, 19, 20, MIN, MAX)
            .stillEach("chance(0, 1, %d)", LOST, -1, 2, MIN, MAX).stillEach("chance(1, 1, %d)", LOST, 0, 1)
            .still("chance(0, 0, 0)", LOST).still("chance(0, 1, 0)", 1).still("chance(1, 0, 1)", 1);
        run("(LOST, where a long is answered, as for refusals)").still("chance(0, 1, 0)", LOST)
            .stillWithFault("cell(0, 0, 0)", LOST, 1).stillWithFault("cell(4, 0, 0)", LOST, 0);
    }

    private static void dueBest(Run run, int a, int b) {
        run.still("best(0)", a).still("best(1)", b);
    }

    private void best() {
        String line = "`int best(int what)`: BEST: a (what 0), b (1); NONE: there are no two LETTERS. OUTSIDE.";
        run(line).still("best(0)", NONE).still("best(1)", NONE).stillEach("best(%d)", OUTSIDE, -1, 2, MIN, MAX);
        sent(line, row(1)).still("best(0)", NONE).still("best(1)", NONE).stillEach("best(%d)", OUTSIDE, -1, 2);
        sent(line, row(1), row(2)).still("best(0)", 0).still("best(1)", 1).stillEach("best(%d)", OUTSIDE, -1, 2);
        String best = "BEST: the two LETTERS (a below b) of the least CHANCE; of several the first (by a, then b).";
        dueBest(sent(best, row(1), row(2), row(3)), 0, 1);
        dueBest(book(sent(best, row(5), row(5), row(5)), 9), 0, 1);
        dueBest(book(sent(best, row(5), row(7), row(7), row(5)), 9), 0, 3);
        dueBest(book(sent(best, row(5), row(6), row(7), row(6), row(7)), 9), 1, 3);
        // of unlike lengths: 2 of 2 places, 1 of 1, 1 of 2
        dueBest(book(sent(best, row(5), row(5), row(6, 7), row(6, 7)), 9), 2, 3);
        dueBest(book(sent(best, row(5, 6), row(5, 7), row(8), row(8)), 9), 2, 3);
        // 8 of 8 places and 8 of 8 of the nine that there are
        dueBest(book(sent(best, new int[7], new int[8], new int[9]), 9), 1, 2);
    }

    private void bestOfTwenty() {
        Run run = run("THE OTHER SIDE has the GROUPS of all LETTERS, and THE BOOK.").does("code(0, 0)", NONE);
        for (int x = 0; x < 20; x++) {
            run.page(x, 0, Math.min(18, x) + 1).letter(x, x, 0);
        }
        dueBest(run, 18, 19);
        run.does("code(1, 5)", NONE);
        dueBest(run, 0, 5);
        run.does("code(1, 18)", 5);
        dueBest(run, 0, 18);
    }

    private void stripped() {
        Run run = sent("STRIPPED at a place: pairs of WORDS u, v (u of the first, v of the second) of which the CODES"
            + " differ so: how many;", row(0, 1, 29, 30, 70, 71, 99), new int[7]);
        run.still("strip(0, 1, 0, 0)", 0).still("strip(0, 1, 0, 1)", NONE).still("strip(0, 1, 0, 2)", NONE);
        for (int word = 0; word < 30; word++) {
            run.does("code(%d, %d)".formatted(word, (90 + word) % 100), NONE);
        }
        int[] pairs = {30, 29, 1, 0, 0, 1, 29};
        int[] likeliestFirst = {0, 1, 29, NONE, NONE, 0, 0};
        int[] likeliestSecond = {0, 0, 0, NONE, NONE, 29, 1};
        for (int place = 0; place < 7; place++) {
            run.still("strip(0, 1, %d, 0)".formatted(place), pairs[place]);
            run.still("strip(0, 1, %d, 1)".formatted(place), likeliestFirst[place]);
            run.still("strip(0, 1, %d, 2)".formatted(place), likeliestSecond[place]);
            run.still("strip(1, 0, %d, 0)".formatted(place), pairs[place]);
        }
        run.still("strip(1, 0, 1, 1)", 0).still("strip(1, 0, 1, 2)", 1).still("strip(1, 0, 2, 1)", 0)
            .still("strip(1, 0, 2, 2)", 29);
    }

    private void likeliest() {
        String likeliest = "the LIKELIEST: the greatest product of their WEIGHTS and 1 each; of several the least u.";
        // pairs 1 apart: 5, 9 (0 and 1), 4, 5 (1 and 2), 7, 4 (2 and 3)
        Run run = book(sent(likeliest, row(1), row(0)));
        run.does("code(9, 0)", NONE).does("code(5, 1)", NONE).does("code(4, 2)", NONE).does("code(7, 3)", NONE);
        dueLikeliest(run, 4, 5);
        dueLikeliest(run.does("weight(7, 1)", 0), 7, 4);
        dueLikeliest(run.does("weight(9, 1)", 0), 5, 9);
        // 0 and 9 make 10, 2 and 2 make 9
        dueLikeliest(run.does("weight(9, 9)", 1).does("weight(4, 2)", 0).does("weight(7, 2)", 1), 5, 9);
        // 0 and 8 make 9, too
        dueLikeliest(run.does("weight(9, 8)", 9), 5, 9);
        dueLikeliest(run.does("weight(9, 7)", 8), 7, 4);
        dueLikeliest(run.does("weight(9, 99)", 7).does("weight(5, 98)", 0), 5, 9);
        dueLikeliest(run.does("weight(4, 99)", 2), 4, 5);
        dueLikeliest(run.does("weight(7, 99)", 2), 7, 4);
        dueLikeliest(run.does("weight(5, 99)", 98), 4, 5);
        dueLikeliest(run.does("weight(4, 98)", 99), 5, 9);
        // a WEIGHT of a WORD without a CODE counts for nothing
        dueLikeliest(run.does("weight(9, 0)", 99).does("weight(5, 0)", 99).does("code(4, -1)", 2), 5, 9);
    }

    private static void dueLikeliest(Run run, int u, int v) {
        run.still("strip(0, 1, 0, 1)", u).still("strip(0, 1, 0, 2)", v);
    }

    private void stripRefused() {
        book(sent("STRIPPED at a place: how many pairs (what 0), the LIKELIEST u (1), v (2; NONE: no pair). UNKNOWN:"
            + " LETTERS, place (of those beside one another); OUTSIDE: what, both are one.", new int[12], new int[9],
            row(0,
            50)), 10)
            .stillEach("strip(%d, 1, 0, 3)", UNKNOWN, -1, 3, 19, 20, MIN, MAX)
            .stillEach("strip(0, %d, 0, 3)", UNKNOWN, -1, 3, 19, 20, MIN, MAX)
            .stillEach("strip(0, 1, %d, 3)", UNKNOWN, -1, 8, 9, MIN, MAX)
            .stillEach("strip(0, 2, %d, 3)", UNKNOWN, -1, 2, 7).stillEach("strip(2, 0, %d, 0)", UNKNOWN, -1, 2, 7)
            .stillEach("strip(0, 0, %d, 0)", UNKNOWN, -1, 8).stillEach("strip(2, 2, %d, 3)", UNKNOWN, -1, 2)
            .stillEach("strip(0, 1, 7, %d)", OUTSIDE, -1, 3, MIN, MAX)
            .stillEach("strip(0, 0, 7, %d)", OUTSIDE, -1, 0, 2, 3)
            .still("strip(2, 2, 1, 0)", OUTSIDE)
            .stillEach("strip(0, 1, %d, 0)", 1, 0, 7).still("strip(0, 2, 0, 0)", 1).still("strip(0, 2, 1, 0)", 0)
            .still("strip(0, 2, 1, 1)", NONE).still("strip(0, 2, 1, 2)", NONE);
    }

    private void with() {
        String with = "WITH a third LETTER: triples of WORDS u, v, w that differ so from one another.";
        Run run = sent(with, row(50, 50, 50, 50, 0), row(50, 51, 49, 50, 99), row(50, 53, 52, 90, 2));
        run.stillEach("with(0, 1, 2, %d)", 0, 0, 1, 2, 3, 4);
        book(run, 10, 11, 13).still("with(0, 1, 2, 0)", 3).still("with(0, 1, 2, 1)", 1).still("with(0, 1, 2, 2)", 1)
            .still("with(2, 0, 1, 2)", 1).still("with(0, 1, 2, 3)", 0).still("with(2, 1, 0, 3)", 0)
            .still("with(0, 1, 2, 4)", 1).still("with(1, 2, 0, 4)", 1);
        run.does("code(2, 12)", 13).still("with(0, 1, 2, 1)", 0).does("code(3, 13)", NONE).still("with(0, 1, 2, 1)", 1)
            .does("code(4, 14)", NONE).still("with(0, 1, 2, 1)", 2);
        Run thirty = sent(with, row(0), row(0), row(29));
        for (int word = 0; word < 30; word++) {
            thirty.does("code(%d, %d)".formatted(word, word), NONE);
        }
        thirty.still("with(0, 1, 2, 0)", 1).still("with(2, 1, 0, 0)", 1).still("with(0, 2, 1, 0)", 1)
            .does("code(29, -1)", 29).still("with(0, 1, 2, 0)", 0);
        // each two of them differ so, but not from one another: 10 and 11, 20 and 23, 30 and 32
        Run twos = book(sent(with, row(50), row(51), row(53)), 10, 11, 20, 23, 30, 32).still("with(0, 1, 2, 0)", 0);
        twos.still("strip(0, 1, 0, 0)", 1).still("strip(0, 2, 0, 0)", 1).still("strip(1, 2, 0, 0)", 1)
            .does("code(9, 13)", NONE).still("with(0, 1, 2, 0)", 1);
    }

    private void withRefused() {
        book(sent("How many triples there are at a place WITH a third LETTER. UNKNOWN: LETTERS, place (of all three,"
            + " within 8); OUTSIDE: two are one.", new int[9], new int[9], new int[12], row(0, 0)), 10)
            .stillEach("with(%d, 1, 2, 0)", UNKNOWN, -1, 4, 19, 20, MIN, MAX)
            .stillEach("with(0, %d, 2, 0)", UNKNOWN, -1, 4, 19, 20, MIN, MAX)
            .stillEach("with(0, 1, %d, 0)", UNKNOWN, -1, 4, 19, 20, MIN, MAX)
            .still("with(4, 4, 0, 0)", UNKNOWN).still("with(0, 0, 4, 0)", UNKNOWN).still("with(0, 4, 0, 0)", UNKNOWN)
            .stillEach("with(0, 1, 2, %d)", UNKNOWN, -1, 8, 9, MIN, MAX)
            .stillEach("with(0, 1, 3, %d)", UNKNOWN, -1, 2, 7)
            .stillEach("with(3, 1, 2, %d)", UNKNOWN, -1, 2, 7).stillEach("with(0, 3, 2, %d)", UNKNOWN, -1, 2, 7)
            .stillEach("with(0, 0, 1, %d)", UNKNOWN, -1, 8).stillEach("with(0, 0, 3, %d)", UNKNOWN, -1, 2)
            .stillEach("with(3, 0, 0, %d)", UNKNOWN, -1, 2).stillEach("with(0, 0, 1, %d)", OUTSIDE, 0, 7)
            .stillEach("with(0, 1, 0, %d)", OUTSIDE, 0, 7).stillEach("with(1, 0, 0, %d)", OUTSIDE, 0, 7)
            .stillEach("with(0, 0, 0, %d)", OUTSIDE, 0, 7).stillEach("with(0, 0, 3, %d)", OUTSIDE, 0, 1)
            .stillEach("with(0, 1, 2, %d)", 1, 0, 7).stillEach("with(0, 1, 3, %d)", 1, 0, 1);
    }

    private void cribMeets() {
        String crib = "A CRIB: a row of 1 to 6 WORDS, laid in the first LETTER from a place on: it MEETS there, if each"
            + " place of it is one of both LETTERS (within 8) and what the second has there then is the CODE of some"
            + " WORD.";
        // the first less the second: 0, 1, 3, 50, 0
        Run run = book(sent(crib, row(0, 1, 3, 50, 99), row(0, 0, 0, 0, 99)), 10, 11, 13).fill(0, BYTES, 0, 1, 2, 0, 0)
            .still("crib(0, 1, 0, 0, 0, 0, 1)", 2).still("crib(0, 1, 1, 0, 0, 0, 1)", 0)
            .still("crib(0, 1, 0, 0, 0, 1, 1)", 3).still("crib(0, 1, 0, 0, 0, 2, 1)", 3)
            .still("crib(0, 1, 0, 0, 0, 1, 2)", 1).still("crib(0, 1, 1, 0, 0, 1, 2)", 1)
            .still("crib(0, 1, 0, 0, 0, 0, 3)", 1).still("crib(0, 1, 1, 0, 0, 0, 3)", 0)
            .still("crib(0, 1, 0, 0, 0, 3, 2)", 0).still("crib(0, 1, 1, 0, 0, 3, 2)", NONE)
            .still("crib(1, 0, 0, 0, 0, 0, 1)", 4).still("crib(1, 0, 1, 0, 0, 2, 1)", 0)
            .still("crib(0, 1, 0, 0, 0, 0, 5)", 0).still("crib(0, 1, 1, 0, 0, 0, 5)", NONE);
        run.does("code(3, 60)", NONE).does("put(0, 3, 3)", 1).still("crib(0, 1, 0, 0, 0, 0, 5)", 1)
            .still("crib(0, 1, 1, 0, 0, 3, 1)", 0).still("crib(0, 1, 1, 0, 0, 3, 2)", 3);
        // 0 less 1 is 99, 99 and 1 are 0
        book(sent(crib, row(0, 1), row(1, 0)), 99, 0).fill(0, BYTES, 0, 1).still("crib(0, 1, 0, 0, 0, 0, 1)", 1)
            .still("crib(0, 1, 1, 0, 0, 0, 1)", 0).still("crib(0, 1, 1, 0, 0, 1, 1)", 1)
            .still("crib(0, 1, 1, 0, 0, 0, 2)", 0).still("crib(1, 0, 1, 0, 0, 0, 2)", NONE);
    }

    private void cribWithin() {
        Run run = book(sent("if each place of it is one of both LETTERS (within 8)", new int[12], new int[9],
            new int[6],
            new int[5]), 10).does("sheet(0, 2, 8)", 1);
        for (int n = 1; n <= 6; n++) {
            run.still("crib(0, 1, 0, 0, 2, 0, %d)".formatted(n), 9 - n);
            run.still("crib(0, 2, 0, 0, 2, 0, %d)".formatted(n), 7 - n);
            run.still("crib(2, 0, 0, 0, 2, 0, %d)".formatted(n), 7 - n);
            run.still("crib(0, 3, 0, 0, 2, 0, %d)".formatted(n), 6 - n);
            run.still("crib(3, 1, 1, 0, 2, 0, %d)".formatted(n), n <= 5 ? 0 : NONE);
        }
        // it meets at the last place that is left, and no further
        book(sent("if each place of it is one of both LETTERS (within 8)", row(1, 1, 1, 1, 1, 1, 1, 0, 0, 0),
            new int[12]), 10)
            .does("sheet(0, 2, 8)", 1).still("crib(0, 1, 0, 0, 2, 0, 1)", 1).still("crib(0, 1, 1, 0, 2, 0, 1)", 7)
            .still("crib(0, 1, 0, 0, 2, 0, 2)", 0).still("crib(0, 1, 1, 0, 2, 0, 2)", NONE);
    }

    private void cribRefused() {
        Run run = book(sent("A CRIB of n such cells (WORDS): at how many places it MEETS (what 0), the first one (1;"
            + " NONE). UNKNOWN: LETTERS, SHEET; OUTSIDE: both are one, what, lane; CAST; NULL; SIZE; INDEX; OUTSIDE: n"
            + " is not 1 .. 6; UNKNOWN: a WORD without a CODE.", new int[8], new int[8]), 10).does("code(29, 20)", NONE)
            .fill(0, SHORTS, 0, 0, 0, 29, 0, 0, 0, 1, 30, -1).does("sheet(2, 2, 0)", 1);
        run.stillEach("crib(%d, 1, 2, 0, 3, -1, -1)", UNKNOWN, -1, 2, 19, 20, MIN, MAX);
        run.stillEach("crib(0, %d, 2, 0, 3, -1, -1)", UNKNOWN, -1, 2, 19, 20, MIN, MAX);
        run.stillEach("crib(0, 0, 2, %d, 3, -1, -1)", UNKNOWN, -1, 4, MIN, MAX);
        run.stillEach("crib(%d, 2, 0, 0, 1, 0, 1)", UNKNOWN, 1, 2);
        run.stillEach("crib(%d, 1, 0, 0, 1, 0, 1)", UNKNOWN, -1, 2);
        run.stillEach("crib(0, 0, %d, 0, 1, 0, 1)", OUTSIDE, 0, 1, 2).still("crib(1, 1, 0, 1, 1, -1, -1)", OUTSIDE);
        run.stillEach("crib(0, 1, %d, 0, 0, -1, -1)", OUTSIDE, -1, 2, MIN, MAX);
        run.stillEach("crib(0, 1, %d, 1, 0, -1, -1)", OUTSIDE, -1, 2);
        refuseCells(run, "crib(0, 1, 0, ", SHORTS, 10);
        run.stillEach("crib(0, 1, 0, 0, 1, %d, 0)", OUTSIDE, 0, 10)
            .stillEach("crib(0, 1, 0, 0, 1, 0, %d)", OUTSIDE, 7, 10);
        run.still("crib(0, 1, 0, 0, 1, 3, 7)", OUTSIDE).still("crib(0, 1, 0, 2, 2, 0, 0)", OUTSIDE);
        run.stillEach("crib(0, 1, 0, 0, 1, %d, 1)", UNKNOWN, 7, 8, 9)
            .stillEach("crib(0, 1, 0, 0, 1, %d, 2)", UNKNOWN, 6, 7, 8);
        run.still("crib(0, 1, 0, 0, 1, 2, 6)", UNKNOWN).still("crib(0, 1, 0, 0, 1, 1, 6)", 3);
        run.still("crib(0, 1, 1, 0, 1, 3, 1)", 0).still("crib(0, 1, 0, 0, 1, 0, 1)", 8);
    }

    private void open() {
        String open = "OPEN up to a DAY: LETTERS of that DAY or ahead that have a PAGE with another such one.";
        Run run = run(open).does("code(0, 0)", NONE).text("r1").page(0, 0, 1).page(1, 0, 1).page(2, 0, 1).page(3, 0, 1)
            .does("sheet(0, 0, 1)", 1).stillEach("open(%d)", 0, 0, 99);
        run.does("letter(0, 0, 0, 0, 0, 1)", 0).stillEach("open(%d)", 0, 0, 99).does("letter(0, 0, 0, 0, 0, 1)", 1)
            .stillEach("open(%d)", 2, 0, 99);
        run.does("letter(1, 99, 0, 0, 0, 1)", 2).does("letter(1, 99, 0, 0, 0, 1)", 3).stillEach("open(%d)", 2, 0, 98)
            .still("open(99)", 4);
        run.does("letter(2, 7, 0, 0, 0, 1)", 4).does("letter(2, 5, 0, 0, 0, 1)", 5).stillEach("open(%d)", 2, 4, 5, 6)
            .stillEach("open(%d)", 4, 7, 98).does("letter(2, 8, 0, 0, 0, 1)", 6).still("open(7)", 4)
            .still("open(8)", 5);
        run.does("letter(3, 0, 0, 0, 0, 1)", 7).still("open(0)", 2).still("open(99)", 7);
        run("`int open(int day)`: How many LETTERS are OPEN up to a DAY. OUTSIDE.")
            .stillEach("open(%d)", OUTSIDE, -1, 100, MIN, MAX).stillEach("open(%d)", 0, 0, 99);
        Run twenty = run(open).does("code(0, 0)", NONE).text("r1").page(0, 0, 1).does("sheet(0, 0, 1)", 1);
        for (int x = 0; x < 20; x++) {
            twenty.does("letter(0, %d, 0, 0, 0, 1)".formatted(x), x);
        }
        twenty.still("open(0)", 0).still("open(1)", 2).still("open(18)", 19).stillEach("open(%d)", 20, 19, 99);
    }
}
