/** Promises 26 to 36, and the constants. */
public final class SheetsAndPartsTest {
    private static final Checks checks = new Checks("SheetsAndPartsTest");

    public static void main(String[] args) {
        constants();
        promise26Sheet();
        promise27Lose();
        promise28Put();
        promise29Cell();
        promise29Lost();
        promise30Copy();
        promise30Overlapping();
        promise30Refused();
        promise31Tell();
        promise32Mark();
        promise33As();
        promise34Trace();
        promise35Fault();
        promise35CallsThatNameNone();
        promise36Many();
        checks.end();
    }

    private static void constants() {
        checks.due("UNKNOWN", BurntPads.UNKNOWN, -1);
        checks.due("OUTSIDE", BurntPads.OUTSIDE, -2);
        checks.due("STATE", BurntPads.STATE, -3);
        checks.due("FULL", BurntPads.FULL, -4);
        checks.due("NONE", BurntPads.NONE, -9);
        checks.due("LOST", BurntPads.LOST, Long.MIN_VALUE);
    }

    private static void promise26Sheet() {
        BurntPads pads = new BurntPads();
        for (int k = 0; k < 4; k++) {
            checks.dueWithFault(pads, "sheet " + k, pads.sheet(k, k % 3, 60), 1, 0);
            checks.due("cell 59", pads.cell(k, 59, k % 3), 0);
            checks.due("cell 60", pads.cell(k, 60, k % 3), BurntPads.LOST);
        }
        pads.put(0, 0, 4);
        pads.put(0, 3, 5);
        checks.due("a new row", pads.sheet(0, 2, 4), 1);
        checks.due("is all 0", pads.cell(0, 0, 2), 0);
        checks.due("is all 0", pads.cell(0, 3, 2), 0);
        checks.due("is of another lane", pads.cell(0, 3, 0), BurntPads.LOST);
        checks.due("is shorter", pads.cell(0, 4, 2), BurntPads.LOST);
        pads.put(0, 3, 5);
        checks.dueWithFault(pads, "sheet(0, 0, -1)", pads.sheet(0, 0, -1), Checks.SIZE, 4);
        checks.dueWithFault(pads, "sheet(4, 3, -1)", pads.sheet(4, 3, -1), BurntPads.UNKNOWN, 0);
        checks.dueWithFault(pads, "sheet(0, 0, MIN)", pads.sheet(0, 0, Integer.MIN_VALUE), Checks.SIZE, 4);
        checks.dueWithFault(pads, "sheet(-1, 0, 0)", pads.sheet(-1, 0, 0), BurntPads.UNKNOWN, 0);
        pads.sheet(0, 0, -1);
        checks.dueWithFault(pads, "sheet(0, 3, -1)", pads.sheet(0, 3, -1), BurntPads.OUTSIDE, 0);
        checks.dueWithFault(pads, "sheet(0, -1, 1)", pads.sheet(0, -1, 1), BurntPads.OUTSIDE, 0);
        checks.dueWithFault(pads, "sheet(0, 0, 61)", pads.sheet(0, 0, 61), BurntPads.OUTSIDE, 0);
        checks.due("refused, kept", pads.cell(0, 3, 2), 5);
        checks.due("of no cells", pads.sheet(1, 1, 0), 1);
        checks.dueWithFault(pads, "put into no cells", pads.put(1, 0, 1), Checks.INDEX, 3);
    }

    private static void promise27Lose() {
        BurntPads pads = new BurntPads();
        checks.due("lose(3), nothing", pads.lose(3), 0);
        pads.sheet(3, 0, 0);
        checks.due("lose(3)", pads.lose(3), 1);
        checks.due("lose(3) again", pads.lose(3), 0);
        checks.due("put behind it", pads.put(3, 0, 1), Checks.NULL);
        checks.due("lose(4)", pads.lose(4), BurntPads.UNKNOWN);
        checks.due("lose(-1)", pads.lose(-1), BurntPads.UNKNOWN);
        Checks.fill(pads, 3, Checks.INTS, 7, 8);
        pads.lose(3);
        pads.sheet(3, 2, 2);
        checks.due("a row behind it is new", pads.cell(3, 1, 2), 0);
    }

    private static void promise28Put() {
        BurntPads pads = new BurntPads();
        checks.dueWithFault(pads, "put(0, -1, 0), nothing", pads.put(0, -1, 0), Checks.NULL, 1);
        checks.dueWithFault(pads, "put(4, 0, 0)", pads.put(4, 0, 0), BurntPads.UNKNOWN, 0);
        pads.sheet(0, 2, 3);
        checks.dueWithFault(pads, "put(0, 3, 0)", pads.put(0, 3, 0), Checks.INDEX, 3);
        checks.dueWithFault(pads, "put(0, 2, 9)", pads.put(0, 2, 9), 1, 0);
        checks.dueWithFault(pads, "put(0, -1, 0)", pads.put(0, -1, 0), Checks.INDEX, 3);
        checks.dueWithFault(pads, "put(-1, 0, 0)", pads.put(-1, 0, 0), BurntPads.UNKNOWN, 0);
        checks.due("cell(0, 2, 2)", pads.cell(0, 2, 2), 9);
        checks.due("cell(0, 1, 2)", pads.cell(0, 1, 2), 0);
    }

    private static void promise29Cell() {
        BurntPads pads = new BurntPads();
        int[] numbers = {0, 127, 128, -128, -129, 255, 256, 32767, 32768, -32768, -32769, 65535, 70001,
            Integer.MAX_VALUE, Integer.MIN_VALUE};
        Checks.fill(pads, 0, Checks.BYTES, numbers);
        Checks.fill(pads, 1, Checks.SHORTS, numbers);
        Checks.fill(pads, 2, Checks.INTS, numbers);
        for (int i = 0; i < numbers.length; i++) {
            checks.due("a byte of " + numbers[i], pads.cell(0, i, 0), (byte) numbers[i]);
            checks.due("a short of " + numbers[i], pads.cell(1, i, 1), (short) numbers[i]);
            checks.due("an int of " + numbers[i], pads.cell(2, i, 2), numbers[i]);
        }
        checks.due("fault()", pads.fault(), 0);
    }

    private static void promise29Lost() {
        BurntPads pads = new BurntPads();
        pads.sheet(0, 1, 2);
        checks.dueWithFault(pads, "nothing", pads.cell(1, -1, 0), BurntPads.LOST, 1);
        checks.dueWithFault(pads, "sheet 4", pads.cell(4, 0, 3), BurntPads.LOST, 0);
        checks.dueWithFault(pads, "another lane", pads.cell(0, 2, 0), BurntPads.LOST, 2);
        checks.dueWithFault(pads, "sheet -1", pads.cell(-1, 0, 0), BurntPads.LOST, 0);
        checks.dueWithFault(pads, "i 2", pads.cell(0, 2, 1), BurntPads.LOST, 3);
        checks.dueWithFault(pads, "lane 3, nothing", pads.cell(1, 0, 3), BurntPads.LOST, 0);
        checks.dueWithFault(pads, "i -1", pads.cell(0, -1, 1), BurntPads.LOST, 3);
        checks.dueWithFault(pads, "lane -1", pads.cell(0, 0, -1), BurntPads.LOST, 0);
        checks.dueWithFault(pads, "a cell", pads.cell(0, 1, 1), 0, 0);
    }

    private static void dueCells(BurntPads pads, int k, int lane, int... cells) {
        for (int i = 0; i < cells.length; i++) {
            checks.due("cell " + i + " of sheet " + k, pads.cell(k, i, lane), cells[i]);
        }
        checks.due("no more cells", pads.cell(k, cells.length, lane), BurntPads.LOST);
    }

    private static void promise30Copy() {
        BurntPads pads = new BurntPads();
        Checks.fill(pads, 0, Checks.SHORTS, 1, 2, 3, 4);
        Checks.fill(pads, 1, Checks.SHORTS, 0, 0, 0);
        checks.due("copy(0, 1, 1, 0, 2)", pads.copy(0, 1, 1, 0, 2), 2);
        dueCells(pads, 1, 1, 2, 3, 0);
        dueCells(pads, 0, 1, 1, 2, 3, 4);
        checks.due("to the ends", pads.copy(0, 3, 1, 2, 1), 1);
        dueCells(pads, 1, 1, 2, 3, 4);
        checks.dueWithFault(pads, "none, at the ends", pads.copy(0, 4, 1, 3, 0), 0, 0);
        pads.sheet(2, 1, 0);
        checks.dueWithFault(pads, "none of no cells", pads.copy(2, 0, 2, 0, 0), 0, 0);
    }

    private static void promise30Overlapping() {
        BurntPads pads = new BurntPads();
        Checks.fill(pads, 0, Checks.BYTES, 1, 2, 3, 4, 5);
        checks.due("up", pads.copy(0, 0, 0, 1, 4), 4);
        dueCells(pads, 0, 0, 1, 1, 2, 3, 4);
        Checks.fill(pads, 0, Checks.BYTES, 1, 2, 3, 4, 5);
        checks.due("down", pads.copy(0, 1, 0, 0, 4), 4);
        dueCells(pads, 0, 0, 2, 3, 4, 5, 5);
        checks.due("onto itself", pads.copy(0, 0, 0, 0, 5), 5);
        dueCells(pads, 0, 0, 2, 3, 4, 5, 5);
    }

    private static void promise30Refused() {
        BurntPads pads = new BurntPads();
        Checks.fill(pads, 0, Checks.BYTES, 1, 2, 3);
        Checks.fill(pads, 1, Checks.INTS, 1, 2, 3);
        Checks.fill(pads, 3, Checks.BYTES, 7, 8);
        checks.dueWithFault(pads, "nothing goes", pads.copy(2, -1, 0, 0, 1), Checks.NULL, 1);
        checks.dueWithFault(pads, "sheet 4", pads.copy(4, 0, 2, 0, 1), BurntPads.UNKNOWN, 0);
        checks.dueWithFault(pads, "to nothing", pads.copy(0, -1, 2, 0, 1), Checks.NULL, 1);
        checks.dueWithFault(pads, "to sheet -1", pads.copy(2, 0, -1, 0, 1), BurntPads.UNKNOWN, 0);
        checks.dueWithFault(pads, "nothing to nothing", pads.copy(2, 0, 2, 0, 0), Checks.NULL, 1);
        checks.dueWithFault(pads, "another lane", pads.copy(0, -1, 1, -1, -1), Checks.CAST, 2);
        checks.dueWithFault(pads, "another lane, none", pads.copy(1, 0, 0, 0, 0), Checks.CAST, 2);
        int[][] beyond = {{-1, 0, 1}, {0, -1, 1}, {0, 0, -1}, {0, 0, 3}, {2, 0, 2}, {0, 1, 2}, {4, 0, 0},
            {0, 3, 0}, {Integer.MAX_VALUE, 0, 1}, {0, Integer.MAX_VALUE, 1}, {1, 1, Integer.MAX_VALUE}};
        for (int[] row : beyond) {
            String call = "copy(0, " + row[0] + ", 3, " + row[1] + ", " + row[2] + ")";
            checks.dueWithFault(pads, call, pads.copy(0, row[0], 3, row[1], row[2]), Checks.INDEX, 3);
        }
        dueCells(pads, 3, 0, 7, 8);
    }

    private static void promise31Tell() {
        BurntPads pads = new BurntPads();
        for (int kind = 0; kind < 3; kind++) {
            Checks.page(pads, kind, 0, 1, 2, 3, 4, 5);
        }
        Checks.page(pads, 1, 0, 1);
        Checks.page(pads, 2, 0, 1);
        checks.due("tell(0)", pads.tell(0), 5);
        checks.due("tell(1)", pads.tell(1), 104);
        checks.due("tell(2)", pads.tell(2), 106);
        checks.due("tell(3)", pads.tell(3), 100);
        checks.due("tell(4)", pads.tell(4), 100);
        int before = pads.trace();
        checks.due("tell(5)", pads.tell(5), BurntPads.UNKNOWN);
        checks.due("tell(-1)", pads.tell(-1), BurntPads.UNKNOWN);
        checks.due("trace() behind it", pads.trace(), before);
    }

    private static void promise32Mark() {
        BurntPads pads = new BurntPads();
        for (int kind = 2; kind >= 0; kind--) {
            Checks.page(pads, kind, 0, 1, 2, 3);
        }
        checks.due("mark(0)", pads.mark(0), 88);
        checks.due("trace()", pads.trace(), 5);
        checks.due("mark(1)", pads.mark(1), 1);
        checks.due("trace()", pads.trace(), 159);
        checks.due("mark(2)", pads.mark(2), 2);
        checks.due("trace()", pads.trace(), 4933);
        checks.due("mark(3)", pads.mark(3), BurntPads.UNKNOWN);
        checks.due("mark(-1)", pads.mark(-1), BurntPads.UNKNOWN);
        checks.due("trace() behind it", pads.trace(), 4933);
    }

    private static void promise33As() {
        BurntPads pads = new BurntPads();
        for (int kind = 0; kind < 3; kind++) {
            Checks.page(pads, kind, 0, 1, 2, 3);
        }
        for (int p = 0; p < 3; p++) {
            for (int kind = 0; kind < 3; kind++) {
                boolean isOne = kind <= p;
                checks.dueWithFault(pads, "as(" + p + ", " + kind + ")", pads.as(p, kind), isOne ? 1 : Checks.CAST,
                    isOne ? 0 : 2);
            }
        }
        pads.as(0, 1);
        checks.dueWithFault(pads, "as(3, 3)", pads.as(3, 3), BurntPads.UNKNOWN, 0);
        pads.as(0, 1);
        checks.dueWithFault(pads, "as(-1, 0)", pads.as(-1, 0), BurntPads.UNKNOWN, 0);
        pads.as(0, 1);
        checks.dueWithFault(pads, "as(0, 3)", pads.as(0, 3), BurntPads.OUTSIDE, 0);
        checks.dueWithFault(pads, "as(0, -1)", pads.as(0, -1), BurntPads.OUTSIDE, 0);
    }

    private static void promise34Trace() {
        BurntPads pads = new BurntPads();
        checks.due("trace()", pads.trace(), 0);
        for (int kind = 0; kind < 3; kind++) {
            Checks.page(pads, kind, 0, 1, 2, 3);
        }
        int[][] bodies = {{1}, {2, 1}, {3, 2, 1, 1}};
        int trace = 0;
        for (int round = 0; round < 5; round++) {
            for (int p = 0; p < 3; p++) {
                pads.tell(p);
                for (int body : bodies[p]) {
                    trace = 31 * trace + body;
                }
                checks.due("trace() behind tell(" + p + ")", pads.trace(), trace);
                pads.mark(p);
                trace = 31 * trace + (p == 2 ? 5 : 4);
                checks.due("trace() behind mark(" + p + ")", pads.trace(), trace);
            }
        }
        pads.as(0, 0);
        pads.ofPage(1, 3);
        checks.due("trace() behind other calls", pads.trace(), trace);
    }

    private static void promise35Fault() {
        BurntPads pads = new BurntPads();
        checks.due("fault() ahead of any", pads.fault(), 0);
        pads.put(0, 0, 0);
        checks.due("NULL", pads.fault(), 1);
        pads.sheet(0, 0, 1);
        checks.due("a call that came to none", pads.fault(), 0);
        pads.cell(0, 0, 1);
        checks.due("CAST", pads.fault(), 2);
        checks.due("CAST, still", pads.fault(), 2);
        pads.put(0, 1, 0);
        checks.due("INDEX", pads.fault(), 3);
        pads.sheet(0, 0, -1);
        checks.due("SIZE", pads.fault(), 4);
        pads.sheet(0, 0, 61);
        checks.due("a call that was refused", pads.fault(), 0);
    }

    private static void promise35CallsThatNameNone() {
        BurntPads pads = new BurntPads();
        Checks.page(pads, 0, 0, 1);
        pads.put(0, 0, 0);
        pads.code(30, 0);
        pads.weight(0, 1);
        pads.ofDrill(0);
        pads.ofPage(0, 0);
        pads.ofLetter(0, 0);
        pads.read(0, 0, 0);
        pads.need(0, 0);
        pads.bag(0, 0, 1);
        pads.out(0, 0);
        pads.last(0, 0);
        pads.beside(0, 0, 0);
        pads.spread();
        pads.chance(0, 0, 0);
        pads.best(0);
        pads.strip(0, 0, 0, 0);
        pads.with(0, 0, 0, 0);
        pads.open(0);
        pads.makers(0, 0);
        pads.like(0, 0);
        pads.next(0);
        pads.lose(0);
        pads.lose(4);
        pads.tell(0);
        pads.mark(0);
        pads.trace();
        pads.many(0);
        checks.due("NULL, still", pads.fault(), 1);
    }

    private static void promise36Many() {
        BurntPads pads = new BurntPads();
        pads.code(3, 5);
        pads.code(4, 6);
        pads.code(5, 7);
        pads.code(6, 8);
        pads.code(3, -1);
        Checks.drill(pads, "r1");
        Checks.page(pads, 0, 0, 1, 2);
        Checks.letter(pads, 0, 0, 4);
        Checks.letter(pads, 0, 0, 4);
        pads.bag(0, 0, 1);
        pads.bag(0, 0, 1);
        pads.bag(0, 0, 1);
        pads.bag(0, 0, 1);
        checks.due("many(0)", pads.many(0), 3);
        checks.due("many(1)", pads.many(1), 1);
        checks.due("many(2)", pads.many(2), 2);
        checks.due("many(3)", pads.many(3), 4);
        checks.due("many(4)", pads.many(4), BurntPads.OUTSIDE);
        checks.due("many(-1)", pads.many(-1), BurntPads.OUTSIDE);
    }
}
