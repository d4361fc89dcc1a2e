/** What the tests of the document's sentences share: its numbers, and runs that quote it. */
abstract class Edges {
    static final int UNKNOWN = -1;
    static final int OUTSIDE = -2;
    static final int STATE = -3;
    static final int FULL = -4;
    static final int NONE = -9;
    static final int NULL = -11;
    static final int CAST = -12;
    static final int INDEX = -13;
    static final int SIZE = -14;
    static final long LOST = Long.MIN_VALUE;
    static final int MIN = Integer.MIN_VALUE;
    static final int MAX = Integer.MAX_VALUE;
    static final int BYTES = 0;
    static final int SHORTS = 1;
    static final int INTS = 2;

    private final Checks checks;
    private final Quotes quotes;

    Edges(Checks checks, Quotes quotes) {
        this.checks = checks;
        this.quotes = quotes;
    }

    abstract void hold();

    /** A run that holds these words of the document. */
    final Run run(String sentence) {
        quotes.add(sentence);
        return new Run(checks, sentence);
    }

    /**
     * Lanes that there are not, and the FAULTS of cells from i on, each ahead of all that are told behind it. SHEET 0
     * must have so many cells of a LANE, SHEET 1 nothing, SHEET 2 no ints at all; call is what stands ahead of
     * the four numbers.
     */
    static void refuseCells(Run run, String call, int lane, int size) {
        run.stillEach(call + "0, %d, -1, -1)", OUTSIDE, -1, 3, MIN, MAX)
            .stillEach(call + "1, %d, -1, -1)", OUTSIDE, -1, 3);
        for (int other = 0; other < 3; other++) {
            run.still(call + "0, " + other + ", -1, -1)", other == lane ? SIZE : CAST);
            run.still(call + "1, " + other + ", -1, -1)", NULL).still(call + "1, " + other + ", 0, 0)", NULL);
        }
        run.stillEach(call + "2, %d, 0, 0)", CAST, 0, 1).stillEach(call + "2, 2, %d, 0)", INDEX, -1, 1);
        run.still(call + "2, 2, 0, 1)", INDEX);
        String row = call + "0, " + lane + ", ";
        run.stillEach(row + "0, %d)", SIZE, -1, MIN).stillEach(row + "%d, -1)", SIZE, -1, size, size + 1, MIN, MAX);
        run.stillEach(row + "%d, 0)", INDEX, -1, size + 1, MIN, MAX);
        run.stillEach(row + "%d, 1)", INDEX, -1, size, size + 1, MIN, MAX);
        run.stillEach(row + "%d, 2)", INDEX, -1, size - 1, MIN, MAX);
        run.stillEach(row + "0, %d)", INDEX, size + 1, MAX).stillEach(row + "1, %d)", INDEX, size, MAX);
        run.still(row + MAX + ", " + MAX + ")", INDEX);
    }
}
