/** Promises 15 to 22. */
public final class OtherSideTest {
    private static final Checks checks = new Checks("OtherSideTest");

    public static void main(String[] args) {
        promise15Beside();
        promise15EightPlaces();
        promise15Refused();
        promise16Spread();
        promise17Chance();
        promise17Refused();
        promise18Best();
        promise18UnlikeLengths();
        promise19Strip();
        promise19Likeliest();
        promise19Refused();
        promise20With();
        promise20Refused();
        promise21Crib();
        promise21WithinEight();
        promise21Refused();
        promise22Open();
        checks.end();
    }

    /** A LETTER of these GROUPS: WORD 29, lent the CODE 0 for it, hidden with a PAGE of them. */
    private static int sent(BurntPads pads, int... groups) {
        int page = Checks.page(pads, 0, 0, groups);
        int zero = 29;
        int before = pads.code(zero, 0);
        int[] words = new int[groups.length];
        java.util.Arrays.fill(words, zero);
        int letter = Checks.letter(pads, page, 0, words);
        pads.code(zero, before == BurntPads.NONE ? -1 : before);
        return letter;
    }

    /** CODES 10, 11, 13 (WORDS 0, 1, 2): 0 three times apart, 1, 2, 3, 97, 98, 99 once each. */
    private static BurntPads padsWithWords() {
        BurntPads pads = new BurntPads();
        pads.code(0, 10);
        pads.code(1, 11);
        pads.code(2, 13);
        return pads;
    }

    private static void promise15Beside() {
        BurntPads pads = padsWithWords();
        sent(pads, 5, 0, 50, 2);
        sent(pads, 5, 99, 40, 4, 77);
        checks.due("places", pads.beside(0, 1, 0), 4);
        checks.due("fitting", pads.beside(0, 1, 1), 3);
        checks.due("one page", pads.beside(0, 1, 2), 0);
        checks.due("sure", pads.beside(0, 1, 3), 2);
        checks.due("fitting, the other way", pads.beside(1, 0, 1), 3);
        pads.code(1, -1);
        checks.due("fitting without a code", pads.beside(0, 1, 1), 1);
        checks.due("sure without a code", pads.beside(0, 1, 3), 0);
        pads.code(0, -1);
        checks.due("just one code", pads.beside(0, 1, 1) * 10 + pads.beside(0, 1, 3), 11);
        pads.code(2, -1);
        checks.due("no code", pads.beside(0, 1, 1), 0);
        BurntPads again = padsWithWords();
        Checks.drill(again, "r1");
        Checks.page(again, 0, 0, 1, 2, 3);
        Checks.letter(again, 0, 0, 0, 1);
        Checks.letter(again, 0, 0, 2);
        checks.due("one page", again.beside(0, 1, 2), 1);
    }

    private static void promise15EightPlaces() {
        BurntPads pads = padsWithWords();
        sent(pads, 0, 0, 0, 0, 0, 0, 0, 1, 1, 1);
        sent(pads, 0, 0, 0, 0, 0, 0, 0, 0, 0);
        checks.due("places", pads.beside(0, 1, 0), 8);
        checks.due("fitting", pads.beside(0, 1, 1), 8);
        checks.due("sure", pads.beside(0, 1, 3), 1);
        checks.due("strip at 7", pads.strip(0, 1, 7, 0), 1);
        checks.due("strip at 8", pads.strip(0, 1, 8, 0), BurntPads.UNKNOWN);
    }

    private static void promise15Refused() {
        BurntPads pads = padsWithWords();
        sent(pads, 1);
        sent(pads, 2);
        checks.due("beside(2, 0, 4)", pads.beside(2, 0, 4), BurntPads.UNKNOWN);
        checks.due("beside(0, -1, 0)", pads.beside(0, -1, 0), BurntPads.UNKNOWN);
        checks.due("beside(2, 2, 0)", pads.beside(2, 2, 0), BurntPads.UNKNOWN);
        checks.due("beside(0, 1, 4)", pads.beside(0, 1, 4), BurntPads.OUTSIDE);
        checks.due("beside(0, 1, -1)", pads.beside(0, 1, -1), BurntPads.OUTSIDE);
        checks.due("beside(1, 1, 0)", pads.beside(1, 1, 0), BurntPads.OUTSIDE);
    }

    private static void promise16Spread() {
        BurntPads pads = padsWithWords();
        checks.due("three codes", pads.spread(), 7);
        pads.code(2, 12);
        checks.due("three in a row", pads.spread(), 5);
        pads.code(2, 60);
        checks.due("50 is as far either way", pads.spread(), 6);
        pads.code(2, -1);
        checks.due("two codes", pads.spread(), 3);
        pads.code(1, -1);
        checks.due("one code", pads.spread(), 1);
        pads.code(0, -1);
        checks.due("no code", pads.spread(), 0);
        for (int word = 0; word < 10; word++) {
            pads.code(word, word);
        }
        checks.due("ones", pads.spread(), 19);
        for (int ten = 1; ten < 10; ten++) {
            pads.code(10 + ten, ten * 10);
        }
        checks.due("ones and tens", pads.spread(), 100);
    }

    private static void dueChance(BurntPads pads, int a, int b, long upper, long lower) {
        checks.due("chance(" + a + ", " + b + ", 0)", pads.chance(a, b, 0), upper);
        checks.due("chance(" + a + ", " + b + ", 1)", pads.chance(a, b, 1), lower);
    }

    private static void promise17Chance() {
        BurntPads pads = padsWithWords();
        sent(pads, 0);
        sent(pads, 1, 1);
        sent(pads, 2, 50);
        sent(pads, 50, 2);
        dueChance(pads, 0, 1, 7, 100);
        dueChance(pads, 0, 3, 1, 1);
        dueChance(pads, 1, 2, 1351, 10000);
        dueChance(pads, 2, 3, 1, 1);
        sent(pads, 0, 0, 0, 0, 0, 0, 0, 0);
        sent(pads, 1, 1, 1, 1, 1, 1, 1, 1, 1);
        dueChance(pads, 4, 5, 5764801, 10000000000000000L);
        pads.code(2, 60);
        dueChance(pads, 0, 1, 3, 50);
        dueChance(pads, 1, 2, 9, 2500);
        dueChance(pads, 4, 5, 6561, 39062500000000L);
        sent(pads, 1, 30);
        // 1 - (47 / 50)^2
        dueChance(pads, 1, 6, 291, 2500);
        BurntPads few = new BurntPads();
        sent(few, 0, 0);
        sent(few, 0, 0);
        dueChance(few, 0, 1, 1, 1);
        few.code(0, 5);
        dueChance(few, 0, 1, 1, 10000);
    }

    private static void promise17Refused() {
        BurntPads pads = padsWithWords();
        sent(pads, 0);
        sent(pads, 1);
        checks.due("chance(2, 0, 0)", pads.chance(2, 0, 0), BurntPads.LOST);
        checks.due("chance(0, -1, 0)", pads.chance(0, -1, 0), BurntPads.LOST);
        checks.due("chance(0, 1, 2)", pads.chance(0, 1, 2), BurntPads.LOST);
        checks.due("chance(0, 1, -1)", pads.chance(0, 1, -1), BurntPads.LOST);
        checks.due("chance(1, 1, 0)", pads.chance(1, 1, 0), BurntPads.LOST);
        checks.due("chance(1, 0, 0)", pads.chance(1, 0, 0), 7);
    }

    private static void dueBest(BurntPads pads, int a, int b) {
        checks.due("best(0)", pads.best(0), a);
        checks.due("best(1)", pads.best(1), b);
    }

    private static void promise18Best() {
        BurntPads pads = padsWithWords();
        dueBest(pads, BurntPads.NONE, BurntPads.NONE);
        sent(pads, 0, 20);
        dueBest(pads, BurntPads.NONE, BurntPads.NONE);
        sent(pads, 40, 60);
        dueBest(pads, 0, 1);
        sent(pads, 80, 23);
        dueBest(pads, 0, 2);
        sent(pads, 43, 58);
        dueBest(pads, 1, 3);
        sent(pads, 1, 19);
        dueBest(pads, 0, 4);
        sent(pads, 45, 57);
        dueBest(pads, 0, 4);
        checks.due("best(2)", pads.best(2), BurntPads.OUTSIDE);
        checks.due("best(-1)", pads.best(-1), BurntPads.OUTSIDE);
        checks.due("best(2) of no letters", new BurntPads().best(2), BurntPads.OUTSIDE);
    }

    /** One of two places is likelier than one of one; two of three less likely than both. */
    private static void promise18UnlikeLengths() {
        BurntPads pads = padsWithWords();
        sent(pads, 0, 20, 40);
        sent(pads, 0, 50, 70);
        sent(pads, 50);
        sent(pads, 53);
        dueBest(pads, 2, 3);
        sent(pads, 90, 20, 40);
        dueBest(pads, 0, 4);
    }

    private static void promise19Strip() {
        BurntPads pads = padsWithWords();
        sent(pads, 5, 0, 50);
        sent(pads, 5, 98, 40);
        checks.due("pairs, the same", pads.strip(0, 1, 0, 0), 3);
        checks.due("u, the same", pads.strip(0, 1, 0, 1), 0);
        checks.due("v, the same", pads.strip(0, 1, 0, 2), 0);
        checks.due("pairs, 2 apart", pads.strip(0, 1, 1, 0), 1);
        checks.due("u, 2 apart", pads.strip(0, 1, 1, 1), 2);
        checks.due("v, 2 apart", pads.strip(0, 1, 1, 2), 1);
        checks.due("u, 98 apart", pads.strip(1, 0, 1, 1), 1);
        checks.due("v, 98 apart", pads.strip(1, 0, 1, 2), 2);
        checks.due("pairs, 10 apart", pads.strip(0, 1, 2, 0), 0);
        checks.due("u, 10 apart", pads.strip(0, 1, 2, 1), BurntPads.NONE);
        checks.due("v, 10 apart", pads.strip(0, 1, 2, 2), BurntPads.NONE);
    }

    private static void promise19Likeliest() {
        BurntPads pads = new BurntPads();
        sent(pads, 1);
        sent(pads, 0);
        pads.code(9, 0);
        pads.code(3, 1);
        pads.code(7, 2);
        pads.code(5, 3);
        checks.due("pairs", pads.strip(0, 1, 0, 0), 3);
        checks.due("all the same: the least u", pads.strip(0, 1, 0, 1), 3);
        checks.due("its v", pads.strip(0, 1, 0, 2), 9);
        pads.weight(7, 1);
        checks.due("5, 7 and 7, 3 weigh the same", pads.strip(0, 1, 0, 1), 5);
        checks.due("its v", pads.strip(0, 1, 0, 2), 7);
        pads.weight(3, 1);
        checks.due("7, 3 weighs 4", pads.strip(0, 1, 0, 1), 7);
        checks.due("its v", pads.strip(0, 1, 0, 2), 3);
        pads.weight(5, 2);
        checks.due("5, 7 weighs 6", pads.strip(0, 1, 0, 1), 5);
        pads.weight(3, 2);
        checks.due("7, 3 weighs 6, too", pads.strip(0, 1, 0, 1), 5);
        pads.weight(9, 1);
        checks.due("3, 9 weighs 6, too", pads.strip(0, 1, 0, 1), 3);
        pads.weight(5, 0);
        pads.weight(3, 1);
        pads.weight(9, 99);
        checks.due("3, 9 weighs 200", pads.strip(0, 1, 0, 1), 3);
        pads.weight(5, 99);
        checks.due("5, 7 weighs 200, too", pads.strip(0, 1, 0, 1), 3);
        pads.weight(7, 2);
        checks.due("5, 7 weighs 300", pads.strip(0, 1, 0, 1), 5);
    }

    private static void promise19Refused() {
        BurntPads pads = padsWithWords();
        sent(pads, 1, 2);
        sent(pads, 2);
        checks.due("strip(2, 0, 0, 3)", pads.strip(2, 0, 0, 3), BurntPads.UNKNOWN);
        checks.due("strip(0, -1, 0, 0)", pads.strip(0, -1, 0, 0), BurntPads.UNKNOWN);
        checks.due("strip(0, 1, 1, 3)", pads.strip(0, 1, 1, 3), BurntPads.UNKNOWN);
        checks.due("strip(0, 1, -1, 0)", pads.strip(0, 1, -1, 0), BurntPads.UNKNOWN);
        checks.due("strip(1, 1, 1, 0)", pads.strip(1, 1, 1, 0), BurntPads.UNKNOWN);
        checks.due("strip(0, 1, 0, 3)", pads.strip(0, 1, 0, 3), BurntPads.OUTSIDE);
        checks.due("strip(0, 1, 0, -1)", pads.strip(0, 1, 0, -1), BurntPads.OUTSIDE);
        checks.due("strip(0, 0, 1, 0)", pads.strip(0, 0, 1, 0), BurntPads.OUTSIDE);
    }

    private static void promise20With() {
        BurntPads pads = padsWithWords();
        sent(pads, 50, 50, 50, 50);
        sent(pads, 50, 51, 49, 50);
        sent(pads, 50, 53, 52, 90);
        checks.due("all the same", pads.with(0, 1, 2, 0), 3);
        checks.due("10, 11, 13", pads.with(0, 1, 2, 1), 1);
        checks.due("11, 10, 13", pads.with(0, 1, 2, 2), 1);
        checks.due("13, 11, 10", pads.with(2, 0, 1, 2), 1);
        checks.due("the third does not fit", pads.with(0, 1, 2, 3), 0);
        checks.due("the first does not fit", pads.with(2, 1, 0, 3), 0);
        pads.code(2, 12);
        checks.due("10, 11 and 11, 12, but not 3 apart", pads.with(0, 1, 2, 1), 0);
        checks.due("11, 10, 13 no more", pads.with(0, 1, 2, 2), 0);
        pads.code(3, 13);
        checks.due("11, 10, 13 again", pads.with(0, 1, 2, 2), 1);
        pads.code(4, 14);
        checks.due("12, 11, 14, too", pads.with(0, 1, 2, 2), 2);
    }

    private static void promise20Refused() {
        BurntPads pads = padsWithWords();
        sent(pads, 0, 0, 0, 0, 0, 0, 0, 0, 0);
        sent(pads, 0, 0, 0, 0, 0, 0, 0, 0, 0);
        sent(pads, 0, 0, 0, 0, 0, 0, 0, 0, 0);
        sent(pads, 0, 0);
        checks.due("with(4, 1, 2, 0)", pads.with(4, 1, 2, 0), BurntPads.UNKNOWN);
        checks.due("with(0, 4, 2, 0)", pads.with(0, 4, 2, 0), BurntPads.UNKNOWN);
        checks.due("with(0, 0, -1, 0)", pads.with(0, 0, -1, 0), BurntPads.UNKNOWN);
        checks.due("with(0, 1, 2, 7)", pads.with(0, 1, 2, 7), 3);
        checks.due("with(0, 1, 2, 8)", pads.with(0, 1, 2, 8), BurntPads.UNKNOWN);
        checks.due("with(0, 1, 2, -1)", pads.with(0, 1, 2, -1), BurntPads.UNKNOWN);
        checks.due("with(3, 1, 2, 2)", pads.with(3, 1, 2, 2), BurntPads.UNKNOWN);
        checks.due("with(0, 3, 2, 2)", pads.with(0, 3, 2, 2), BurntPads.UNKNOWN);
        checks.due("with(0, 1, 3, 2)", pads.with(0, 1, 3, 2), BurntPads.UNKNOWN);
        checks.due("with(0, 0, 3, 2)", pads.with(0, 0, 3, 2), BurntPads.UNKNOWN);
        checks.due("with(0, 1, 3, 1)", pads.with(0, 1, 3, 1), 3);
        checks.due("with(0, 0, 1, 0)", pads.with(0, 0, 1, 0), BurntPads.OUTSIDE);
        checks.due("with(0, 1, 0, 0)", pads.with(0, 1, 0, 0), BurntPads.OUTSIDE);
        checks.due("with(1, 0, 0, 0)", pads.with(1, 0, 0, 0), BurntPads.OUTSIDE);
    }

    private static void promise21Crib() {
        BurntPads pads = padsWithWords();
        sent(pads, 0, 1, 3, 50, 0);
        sent(pads, 0, 0, 0, 0, 0);
        // apart: 0, 1, 3, 50, 0; the second then has 10, 11, 13 less that
        checks.due("word 0", Checks.crib(pads, 0, 1, 0, 0), 2);
        checks.due("word 1", Checks.crib(pads, 0, 1, 0, 1), 3);
        checks.due("word 2", Checks.crib(pads, 0, 1, 0, 2), 3);
        checks.due("the first for word 2", Checks.crib(pads, 0, 1, 1, 2), 0);
        checks.due("words 1, 2", Checks.crib(pads, 0, 1, 0, 1, 2), 1);
        checks.due("the first for words 1, 2", Checks.crib(pads, 0, 1, 1, 1, 2), 1);
        checks.due("words 0, 1, 2", Checks.crib(pads, 0, 1, 1, 0, 1, 2), 0);
        checks.due("words 0, 0", Checks.crib(pads, 0, 1, 0, 0, 0), 0);
        checks.due("the first for words 0, 0", Checks.crib(pads, 0, 1, 1, 0, 0), BurntPads.NONE);
        checks.due("the other way", Checks.crib(pads, 1, 0, 0, 0), 4);
        checks.due("as long as both", Checks.crib(pads, 0, 1, 0, 0, 1, 2, 0, 0), 0);
        checks.due("longer than both", Checks.crib(pads, 0, 1, 0, 0, 0, 0, 0, 0, 0), 0);
        checks.due("the first, longer than both", Checks.crib(pads, 0, 1, 1, 0, 0, 0, 0, 0, 0), BurntPads.NONE);
    }

    private static void promise21WithinEight() {
        BurntPads pads = padsWithWords();
        sent(pads, 0, 0, 0, 0, 0, 0, 0, 0, 0, 0);
        sent(pads, 0, 0, 0, 0, 0, 0, 0, 0, 0, 0);
        sent(pads, 0, 0, 0, 0);
        checks.due("one", Checks.crib(pads, 0, 1, 0, 2), 8);
        checks.due("six", Checks.crib(pads, 0, 1, 0, 0, 1, 2, 0, 1, 2), 3);
        checks.due("in four", Checks.crib(pads, 0, 2, 0, 0, 1, 2), 2);
        checks.due("of four", Checks.crib(pads, 2, 0, 0, 0, 1, 2), 2);
        Checks.fill(pads, 0, Checks.INTS, 9, 9, 0, 1, 2, 9);
        checks.due("from the third cell on", pads.crib(0, 1, 0, 0, 2, 2, 3), 6);
    }

    private static void promise21Refused() {
        BurntPads pads = padsWithWords();
        sent(pads, 0, 0);
        sent(pads, 0, 0);
        Checks.fill(pads, 0, Checks.BYTES, 0, 1, 2, 0, 1, 2, 0, 3, 30, -1);
        checks.dueWithFault(pads, "another lane", pads.crib(0, 1, 0, 0, 1, -1, -1), Checks.CAST, 2);
        checks.dueWithFault(pads, "letter 2", pads.crib(2, 1, 2, 0, 3, 0, 1), BurntPads.UNKNOWN, 0);
        checks.dueWithFault(pads, "letter -1", pads.crib(0, -1, 0, 0, 0, 0, 1), BurntPads.UNKNOWN, 0);
        checks.dueWithFault(pads, "nothing", pads.crib(0, 1, 0, 1, 0, -1, -1), Checks.NULL, 1);
        checks.dueWithFault(pads, "sheet 4, both one", pads.crib(0, 0, 0, 4, 0, 0, 1), BurntPads.UNKNOWN, 0);
        checks.dueWithFault(pads, "both one", pads.crib(0, 0, 0, 1, 0, 0, 1), BurntPads.OUTSIDE, 0);
        checks.dueWithFault(pads, "what 2", pads.crib(0, 1, 2, 1, 0, 0, 1), BurntPads.OUTSIDE, 0);
        checks.dueWithFault(pads, "what -1", pads.crib(0, 1, -1, 0, 0, 0, 1), BurntPads.OUTSIDE, 0);
        checks.dueWithFault(pads, "n -1", pads.crib(0, 1, 0, 0, 0, -1, -1), Checks.SIZE, 4);
        checks.dueWithFault(pads, "lane 3", pads.crib(0, 1, 0, 0, 3, 0, 1), BurntPads.OUTSIDE, 0);
        checks.dueWithFault(pads, "i 11, n 0", pads.crib(0, 1, 0, 0, 0, 11, 0), Checks.INDEX, 3);
        checks.dueWithFault(pads, "n 0", pads.crib(0, 1, 0, 0, 0, 10, 0), BurntPads.OUTSIDE, 0);
        checks.dueWithFault(pads, "n 11", pads.crib(0, 1, 0, 0, 0, 0, 11), Checks.INDEX, 3);
        checks.dueWithFault(pads, "n 7", pads.crib(0, 1, 0, 0, 0, 1, 7), BurntPads.OUTSIDE, 0);
        checks.dueWithFault(pads, "without a code", pads.crib(0, 1, 0, 0, 0, 7, 1), BurntPads.UNKNOWN, 0);
        checks.dueWithFault(pads, "word 30", pads.crib(0, 1, 0, 0, 0, 8, 1), BurntPads.UNKNOWN, 0);
        checks.dueWithFault(pads, "word -1", pads.crib(0, 1, 0, 0, 0, 9, 1), BurntPads.UNKNOWN, 0);
        checks.dueWithFault(pads, "six", pads.crib(0, 1, 0, 0, 0, 0, 6), 0, 0);
    }

    private static void promise22Open() {
        BurntPads pads = padsWithWords();
        Checks.drill(pads, "r1");
        for (int p = 0; p < 3; p++) {
            Checks.page(pads, 0, 0, 1, 2, 3);
        }
        checks.due("no letters", pads.open(99), 0);
        Checks.letter(pads, 0, 50, 0);
        Checks.letter(pads, 1, 10, 0);
        Checks.letter(pads, 0, 20, 0);
        Checks.letter(pads, 1, 99, 0);
        Checks.letter(pads, 2, 0, 0);
        Checks.letter(pads, 0, 60, 0);
        int[][] asDue = {{0, 0}, {20, 0}, {49, 0}, {50, 2}, {59, 2}, {60, 3}, {98, 3}, {99, 5}};
        for (int[] due : asDue) {
            checks.due("open(" + due[0] + ")", pads.open(due[0]), due[1]);
        }
        checks.due("open(100)", pads.open(100), BurntPads.OUTSIDE);
        checks.due("open(-1)", pads.open(-1), BurntPads.OUTSIDE);
    }
}
