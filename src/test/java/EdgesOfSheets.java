/** REFUSALS, FAULTS, part 6 and promises 26 to 36. */
final class EdgesOfSheets extends Edges {
    EdgesOfSheets(Checks checks, Quotes quotes) {
        super(checks, quotes);
    }

    @Override
    void hold() {
        refusals();
        faults();
        sheets();
        lanes();
        sheetRefused();
        lose();
        put();
        cell();
        copy();
        copyOntoItself();
        copyRefused();
        copyBeyond();
        tell();
        tellOfNone();
        mark();
        as();
        trace();
        fault();
        faultOfOtherCalls();
        many();
        manyFull();
    }

    // ---- REFUSALS, FAULTS

    private void refusals() {
        run("REFUSALS: UNKNOWN (there is no such WORD, PAGE, LETTER, POST, SHEET, place), OUTSIDE (another number is"
            + " not as told), STATE (as told), FULL; of several the first in the order in which a call's line tells"
            + " them.")
            .does("code(0, 1)", NONE).still("code(30, 1)", -1).still("ofPage(0, 0)", -1).still("ofLetter(0, 0)", -1)
            .still("need(6, 0)", -1).still("lose(4)", -1).still("weight(0, 100)", -2).still("code(1, 1)", -3)
            .still("weight(30, 100)", -1).still("last(10000, 6)", -2);
        Run full = run("They change nothing (but fault(), of a call that names FAULTS).").does("need(0, 9)", 0);
        for (int bag = 1; bag <= 20; bag++) {
            full.does("bag(0, %d, 9)".formatted(bag - 1), bag);
        }
        full.still("bag(0, 20, 9)", -4).still("out(0, 0)", 20).still("sheet(4, 0, 1)", -1).still("need(0, 10)", -2);
        run("NONE is -9.").still("out(0, 0)", -9).still("best(0)", -9).still("ofDrill(0)", -9).still("code(0, -1)", -9);
    }

    private void faults() {
        run("FAULTS are the machine's: 1 NULL (there is nothing), 2 CAST (it is of another LANE, kind), 3 INDEX (of"
            + " cells from i on also where i is not 0 .. how many there are, if none of them is taken, too), 4 SIZE (a"
            + " length below 0).").does("sheet(0, 0, 3)", 1).does("sheet(1, 0, 0)", 1).page(0, 0, 1)
            .still("put(2, 0, 0)", -11).still("drill(0, 1, 0, 0)", -12).still("as(0, 1)", -12)
            .still("put(0, 3, 0)", -13)
            .stillEach("drill(0, 0, %d, 0)", -13, -1, 4, MIN, MAX).stillEach("drill(0, 0, %d, 0)", 0, 0, 3)
            .stillEach("drill(1, 0, %d, 0)", -13, -1, 1).still("drill(1, 0, 0, 0)", 0)
            .stillEach("copy(0, %d, 1, 0, 0)", -13, -1, 4).stillEach("copy(0, %d, 1, 0, 0)", 0, 0, 3)
            .stillEach("copy(0, 0, 1, %d, 0)", -13, -1, 1).still("drill(0, 0, 0, -1)", -14)
            .still("sheet(0, 0, -1)", -14);
        run("Of a call the first that is come to, in the order told; it answers -10 less it (LOST, where a long is"
            + " answered, as for refusals) and changes nothing; fault() tells it.").does("sheet(0, 0, 3)", 1)
            .still("drill(1, 0, -1, -1)", -11).still("drill(0, 1, -1, -1)", -12).still("drill(0, 0, -1, -1)", -14)
            .still("drill(0, 0, -1, 1)", -13).stillWithFault("cell(1, -1, 0)", LOST, 1)
            .stillWithFault("cell(0, -1, 1)", LOST, 2).stillWithFault("cell(0, -1, 0)", LOST, 3)
            .stillWithFault("cell(0, -1, 3)", LOST, 0).stillWithFault("cell(4, -1, 3)", LOST, 0);
    }

    // ---- SHEETS

    private void sheets() {
        String line = "SHEETS 0 .. 3 have nothing (at first), or a row of 0 .. 60 numbers (0 at first) of a LANE:";
        run(line).stillEach("put(%d, 0, 1)", NULL, 0, 1, 2, 3).stillEach("put(%d, 0, 1)", UNKNOWN, -1, 4, MIN, MAX);
        for (int k = 0; k < 4; k++) {
            int lane = k % 3;
            Run run = run(line).does("sheet(%d, %d, 60)".formatted(k, lane), 1);
            for (int i = 0; i < 60; i++) {
                run.still("cell(%d, %d, %d)".formatted(k, i, lane), 0);
            }
            run.stillWithFault("cell(%d, 60, %d)".formatted(k, lane), LOST, 3);
            run.does("put(%d, 0, 5)".formatted(k), 1).does("put(%d, 59, 6)".formatted(k), 1)
                .still("put(%d, 60, 7)".formatted(k), INDEX).still("cell(%d, 59, %d)".formatted(k, lane), 6)
                .still("cell(%d, 58, %d)".formatted(k, lane), 0).still("cell(%d, 0, %d)".formatted(k, lane), 5);
        }
        run(line).does("sheet(0, 2, 0)", 1).stillEach("put(0, %d, 1)", INDEX, -1, 0, 1).does("lose(0)", 1);
        run("`int sheet(int k, int lane, int n)`: A SHEET gets a new row: 1.").fill(0, INTS, 1, 2, 3)
            .does("sheet(0, 2, 3)", 1)
            .stillEach("cell(0, %d, 2)", 0, 0, 1, 2).fill(0, INTS, 1, 2, 3).does("sheet(0, 1, 2)", 1)
            .stillEach("cell(0, %d, 1)", 0, 0, 1).stillWithFault("cell(0, 2, 1)", LOST, 3)
            .stillWithFault("cell(0, 0, 2)", LOST, 2).does("sheet(0, 1, 4)", 1)
            .stillEach("cell(0, %d, 1)", 0, 0, 1, 2, 3)
            .fill(1, INTS, 70000).does("put(0, 0, 70000)", 1).still("cell(0, 0, 1)", 4464)
            .still("cell(1, 0, 2)", 70000);
    }

    private void lanes() {
        int[] numbers = {0, 1, -1, 127, 128, 255, 256, -128, -129, 32767, 32768, 65535, 65536, -32768, -32769, MAX,
            MIN, 70001};
        for (int lane = 0; lane < 3; lane++) {
            Run run = run("0 bytes, 1 shorts, 2 ints; what comes to a cell of it is cut to its LANE.");
            run.does("sheet(0, %d, %d)".formatted(lane, numbers.length), 1);
            for (int i = 0; i < numbers.length; i++) {
                run.does("put(0, %d, %d)".formatted(i, numbers[i]), 1);
            }
            for (int i = 0; i < numbers.length; i++) {
                int bits = lane == 0 ? 24 : lane == 1 ? 16 : 0;
                run.still("cell(0, %d, %d)".formatted(i, lane), numbers[i] << bits >> bits);
            }
        }
    }

    private void sheetRefused() {
        run("UNKNOWN; OUTSIDE: lane, n above 60; SIZE.").fill(0, SHORTS, 1, 2)
            .stillEach("sheet(%d, 3, -1)", UNKNOWN, -1, 4, MIN, MAX).stillEach("sheet(%d, 0, 61)", UNKNOWN, -1, 4)
            .stillEach("sheet(0, %d, -1)", OUTSIDE, -1, 3, MIN, MAX).stillEach("sheet(0, %d, 0)", OUTSIDE, -1, 3)
            .stillEach("sheet(0, 0, %d)", OUTSIDE, 61, MAX).stillEach("sheet(1, 2, %d)", OUTSIDE, 61, MAX)
            .stillEach("sheet(0, 0, %d)", SIZE, -1, MIN).stillEach("sheet(1, 2, %d)", SIZE, -1, MIN)
            .does("sheet(0, 0, 60)", 1).does("sheet(0, 2, 0)", 1);
    }

    private void lose() {
        run("`int lose(int k)`: A SHEET has nothing: 1; 0: it had nothing. UNKNOWN.")
            .stillEach("lose(%d)", 0, 0, 1, 2, 3).stillEach("lose(%d)", UNKNOWN, -1, 4, MIN, MAX)
            .does("sheet(0, 0, 0)", 1).fill(1, SHORTS, 7).fill(2, INTS, 8).fill(3, BYTES, 9)
            .stillEach("lose(%d)", UNKNOWN, -1, 4, MIN, MAX)
            .does("lose(0)", 1).still("lose(0)", 0).still("drill(0, 0, 0, 0)", NULL)
            .does("lose(3)", 1).still("lose(3)", 0).still("put(3, 0, 1)", NULL).still("copy(3, 0, 1, 0, 0)", NULL)
            .still("cell(1, 0, 1)", 7).still("cell(2, 0, 2)", 8)
            .does("sheet(3, 0, 1)", 1).still("cell(3, 0, 0)", 0);
    }

    private void put() {
        run("`int put(int k, int i, int v)`: Cell i of a SHEET becomes v: 1. UNKNOWN; NULL; INDEX.")
            .does("sheet(0, 2, 3)", 1).does("sheet(2, 0, 0)", 1).does("put(0, 0, 7)", 1).does("put(0, 2, -9)", 1)
            .still("cell(0, 0, 2)", 7).still("cell(0, 1, 2)", 0).still("cell(0, 2, 2)", -9)
            .does("put(0, 2, 9)", 1).still("cell(0, 2, 2)", 9)
            .stillEach("put(%d, -1, 1)", UNKNOWN, -1, 4, MIN, MAX).stillEach("put(1, %d, 1)", NULL, -1, 0, 3, MIN, MAX)
            .stillEach("put(0, %d, 1)", INDEX, -1, 3, 59, 60, MIN, MAX).stillEach("put(2, %d, 1)", INDEX, -1, 0, 1);
    }

    private void cell() {
        run("`long cell(int k, int i, int lane)`: Cell i of what a SHEET has, taken as a row of a LANE. LOST: UNKNOWN,"
            + " OUTSIDE: lane; FAULTS CAST (nothing is no CAST), NULL, INDEX.").fill(0, SHORTS, 7, 8, 9)
            .does("sheet(2, 0, 0)", 1).still("cell(0, 0, 1)", 7).still("cell(0, 2, 1)", 9);
        Run run = run("LOST: UNKNOWN, OUTSIDE: lane; FAULTS CAST (nothing is no CAST), NULL, INDEX.")
            .fill(0, SHORTS, 7, 8, 9).does("sheet(2, 0, 0)", 1);
        for (int k : new int[] {-1, 4, MIN, MAX}) {
            run.stillWithFault("cell(%d, -1, 3)".formatted(k), LOST, 0);
        }
        for (int lane : new int[] {-1, 3, MIN, MAX}) {
            run.stillWithFault("cell(0, -1, %d)".formatted(lane), LOST, 0);
            run.stillWithFault("cell(1, -1, %d)".formatted(lane), LOST, 0);
        }
        run.stillWithFault("cell(0, 0, 0)", LOST, 2).stillWithFault("cell(0, -1, 2)", LOST, 2)
            .stillWithFault("cell(2, 0, 1)", LOST, 2);
        for (int lane = 0; lane < 3; lane++) {
            run.stillWithFault("cell(1, -1, %d)".formatted(lane), LOST, 1);
        }
        for (int i : new int[] {-1, 3, 59, 60, MIN, MAX}) {
            run.stillWithFault("cell(0, %d, 1)".formatted(i), LOST, 3);
        }
        run.stillWithFault("cell(2, 0, 0)", LOST, 3).still("cell(0, 1, 1)", 8);
    }

    private static void dueCells(Run run, int k, int lane, int... cells) {
        for (int i = 0; i < cells.length; i++) {
            run.still("cell(%d, %d, %d)".formatted(k, i, lane), cells[i]);
        }
    }

    private void copy() {
        Run run = run("n cells of a SHEET from i on go to another one (perhaps the same) from j on, as they were: n.")
            .fill(0, SHORTS, 1, 2, 3, 4).fill(1, SHORTS, 7, 8, 9).does("sheet(2, 1, 0)", 1);
        dueCells(run.does("copy(0, 2, 1, 0, 2)", 2), 1, SHORTS, 3, 4, 9);
        dueCells(run.does("copy(0, 0, 1, 2, 1)", 1), 1, SHORTS, 3, 4, 1);
        dueCells(run.does("copy(0, 1, 1, 0, 3)", 3), 1, SHORTS, 2, 3, 4);
        dueCells(run.does("put(1, 0, 32767)", 1).does("copy(1, 0, 0, 3, 1)", 1), 0, SHORTS, 1, 2, 3, 32767);
        dueCells(run, 1, SHORTS, 32767, 3, 4);
        run.stillEach("copy(0, %d, 1, 3, 0)", 0, 0, 3, 4).stillEach("copy(0, 4, 1, %d, 0)", 0, 0, 2, 3)
            .still("copy(2, 0, 2, 0, 0)", 0).still("copy(2, 0, 0, 4, 0)", 0).still("copy(0, 4, 2, 0, 0)", 0);
        Run sixty = run("n cells of a SHEET from i on").does("sheet(0, 0, 60)", 1).does("sheet(1, 0, 60)", 1)
            .does("put(0, 0, 5)", 1).does("put(0, 59, 6)", 1).does("copy(0, 0, 1, 0, 60)", 60);
        sixty.still("cell(1, 0, 0)", 5).still("cell(1, 59, 0)", 6).stillEach("copy(0, 0, 1, 0, %d)", INDEX, 61, -1);
    }

    private void copyOntoItself() {
        String same = "(perhaps the same) from j on, as they were: n.";
        dueCells(run(same).fill(0, INTS, 1, 2, 3, 4, 5).does("copy(0, 0, 0, 1, 4)", 4), 0, INTS, 1, 1, 2, 3, 4);
        dueCells(run(same).fill(0, INTS, 1, 2, 3, 4, 5).does("copy(0, 1, 0, 0, 4)", 4), 0, INTS, 2, 3, 4, 5, 5);
        dueCells(run(same).fill(0, INTS, 1, 2, 3, 4, 5).does("copy(0, 0, 0, 4, 1)", 1), 0, INTS, 1, 2, 3, 4, 1);
        run(same).fill(0, INTS, 1, 2, 3, 4, 5).still("copy(0, 0, 0, 0, 5)", 5).still("copy(0, 5, 0, 5, 0)", 0)
            .still("copy(0, 1, 0, 1, 5)", INDEX);
    }

    private void copyRefused() {
        run("UNKNOWN; FAULTS NULL (the first, the other), CAST (unlike LANES), INDEX: i, j, n below 0 or beyond.")
            .fill(0, BYTES, 1, 2, 3).fill(1, SHORTS, 4, 5, 6)
            .stillEach("copy(%d, -1, 2, -1, -1)", UNKNOWN, -1, 4, MIN, MAX)
            .stillEach("copy(2, -1, %d, -1, -1)", UNKNOWN, -1, 4, MIN, MAX)
            .stillEach("copy(2, -1, %d, -1, -1)", NULL, 0, 1, 2, 3)
            .stillEach("copy(%d, -1, 2, -1, -1)", NULL, 0, 1, 2, 3)
            .still("copy(2, 0, 0, 0, 0)", NULL).still("copy(0, 0, 2, 0, 0)", NULL).still("copy(2, 0, 2, 0, 0)", NULL)
            .still("copy(0, -1, 1, -1, -1)", CAST).still("copy(1, -1, 0, -1, -1)", CAST)
            .still("copy(0, 0, 1, 0, 0)", CAST)
            .does("sheet(3, 2, 3)", 1).still("copy(0, 0, 3, 0, 1)", CAST).still("copy(3, 0, 1, 0, 1)", CAST);
    }

    private void copyBeyond() {
        run("INDEX: i, j, n below 0 or beyond.").fill(0, BYTES, 1, 2, 3, 4).fill(1, BYTES, 5, 6, 7)
            .stillEach("copy(0, %d, 1, 0, 1)", INDEX, -1, 4, 5, MIN, MAX)
            .stillEach("copy(0, %d, 1, 0, 0)", INDEX, -1, 5, MIN, MAX)
            .stillEach("copy(0, 0, 1, %d, 1)", INDEX, -1, 3, 4, MIN, MAX)
            .stillEach("copy(0, 0, 1, %d, 0)", INDEX, -1, 4, MIN, MAX)
            .stillEach("copy(0, 0, 1, 0, %d)", INDEX, -1, 4, 5, MIN, MAX)
            .stillEach("copy(1, 0, 0, 0, %d)", INDEX, -1, 4, MIN, MAX)
            .stillEach("copy(0, 2, 1, 0, %d)", INDEX, 3, MAX).stillEach("copy(0, 0, 1, 2, %d)", INDEX, 2, MAX)
            .stillEach("copy(0, %d, 1, 0, 3)", INDEX, -1, 2).stillEach("copy(0, 0, 1, %d, 3)", INDEX, -1, 1);
    }

    // ---- bodies

    private void tell() {
        String page = "PAGE (1): how many GROUPS may be used of it.";
        run(page).page(0, 0, 5).page(1, 0, 1, 2, 3, 4, 5, 6, 7, 8, 9, 10, 11, 12).does("tell(0)", 1).still("trace()", 1)
            .does("tell(1)", 12).still("trace()", 32);
        String shortOne = "SHORT (2): what PAGE's gives, and 100.";
        run(shortOne).page(0, 1, 5).page(1, 1, 5, 6).page(2, 1, 1, 2, 3, 4, 5, 6, 7, 8, 9, 10, 11, 12)
            .does("tell(0)", 100).still("trace()", 63).does("tell(1)", 101).does("tell(2)", 111);
        String torn = "TORN (3): what SHORT's gives, and what PAGE's gives (SHORT's left out).";
        // ((3 * 31 + 2) * 31 + 1) * 31 + 1
        run(torn).page(0, 2, 5).page(1, 2, 5, 6).page(2, 2, 5, 6, 7).page(3, 2, 1, 2, 3, 4, 5, 6, 7, 8, 9, 10, 11, 12)
            .does("tell(0)", 100).still("trace()", 91327).does("tell(1)", 100).does("tell(2)", 102)
            .does("tell(3)", 120);
    }

    private void tellOfNone() {
        run("`int tell(int p)`: TELLING of a PAGE. UNKNOWN.").stillEach("tell(%d)", UNKNOWN, 0, 23).page(0, 1, 5)
            .does("tell(0)", 100).stillEach("tell(%d)", UNKNOWN, -1, 1, 23, 24, MIN, MAX);
        run("`int mark(int p)`: How it is MARKED. UNKNOWN.").stillEach("mark(%d)", UNKNOWN, 0, 23).page(0, 1, 5)
            .does("mark(0)", 0).stillEach("mark(%d)", UNKNOWN, -1, 1, 23, 24, MIN, MAX);
    }

    private void mark() {
        run("MARKED by a lent body (4): its number; TORN ones have their own (5): 88.").page(0, 0, 1).page(1, 1, 1)
            .page(2, 2, 1).does("mark(0)", 0).still("trace()", 4).does("mark(1)", 1).still("trace()", 128)
            .does("mark(2)", 88).still("trace()", 3973);
        Run run = run("its number").does("sheet(0, 0, 1)", 1);
        for (int p = 0; p < 24; p++) {
            run.does("page(%d, 0, 0, 0, 0, 1)".formatted(p % 2), p);
        }
        run.does("mark(23)", 23).does("mark(22)", 22).still("trace()", 128);
    }

    private void as() {
        Run run = run("`int as(int p, int kind)`: A PAGE, taken as one of a kind: 1. UNKNOWN; OUTSIDE; CAST: it is"
            + " none.")
            .page(0, 0, 1).page(1, 1, 1).page(2, 2, 1);
        for (int p = 0; p < 3; p++) {
            for (int kind = 0; kind < 3; kind++) {
                run.still("as(%d, %d)".formatted(p, kind), kind <= p ? 1 : CAST);
            }
        }
        run.stillEach("as(%d, 3)", UNKNOWN, -1, 3, 23, 24, MIN, MAX).stillEach("as(%d, 0)", UNKNOWN, -1, 3)
            .stillEach("as(0, %d)", OUTSIDE, -1, 3, MIN, MAX).stillEach("as(2, %d)", OUTSIDE, -1, 3);
    }

    private void trace() {
        String wraps = "TELLING of PAGES by bodies that leave their number in TRACE (an int that wraps, 0 at first,"
            + " becomes 31 times it and the number) as they begin:";
        Run run = run(wraps).still("trace()", 0).page(0, 0, 1);
        int[] due = {1, 32, 993, 30784, 954305, 29583456, 917087137, -1635069824};
        for (int trace : due) {
            run.does("tell(0)", 1).still("trace()", trace);
        }
        run("`int trace()`: TRACE.").still("trace()", 0).page(0, 2, 1, 2, 3).still("trace()", 0).does("tell(0)", 102)
            .still("trace()", 91327).does("mark(0)", 88).still("trace()", 2831142).still("as(0, 1)", 1)
            .still("tell(1)", UNKNOWN).still("trace()", 2831142);
    }

    private void fault() {
        String line = "The FAULT of the latest call that names one: 0: it came to none, or was refused (0 ahead of"
            + " any).";
        run(line).does("fault()", 0).does("put(0, 0, 0)", NULL).does("fault()", 1).does("fault()", 1)
            .does("sheet(0, 0, 1)", 1).does("fault()", 0).does("cell(0, 0, 1)", LOST).does("fault()", 2)
            .does("cell(0, 0, 0)", 0).does("fault()", 0).does("put(0, 1, 0)", INDEX).does("fault()", 3)
            .does("put(0, 0, 0)", 1).does("fault()", 0).does("sheet(0, 0, -1)", SIZE).does("fault()", 4)
            .does("sheet(0, 0, 61)", OUTSIDE).does("fault()", 0).does("drill(0, 1, 0, 0)", CAST).does("fault()", 2)
            .does("drill(0, 0, 0, 1)", -100).does("fault()", 0).does("copy(1, 0, 0, 0, 0)", NULL).does("fault()", 1)
            .does("copy(0, 0, 0, 0, 1)", 1).does("fault()", 0).does("page(0, 0, 1, 0, 0, 1)", NULL).does("fault()", 1)
            .does("page(0, 0, 0, 0, 0, 1)", 0).does("fault()", 0).does("as(0, 1)", CAST).does("fault()", 2)
            .does("as(0, 0)", 1).does("fault()", 0).does("letter(0, 0, 0, 0, 0, 2)", INDEX).does("fault()", 3)
            .does("letter(0, 0, 0, 0, 0, 0)", STATE).does("fault()", 0).does("code(0, 5)", NONE)
            .does("letter(0, 0, 0, 0, 0, -1)", SIZE).does("fault()", 4).does("letter(0, 0, 0, 0, 0, 1)", 0)
            .does("fault()", 0).does("as(0, 2)", CAST).does("crib(0, 0, 0, 0, 0, 0, 1)", OUTSIDE).does("fault()", 0);
        run(line).text("r1").does("code(0, 5)", NONE).page(0, 0, 1).letter(0, 0, 0).letter(1, 0, 0)
            .does("crib(0, 1, 0, 3, 1, 0, 1)", CAST).does("fault()", 2).does("crib(0, 1, 0, 3, 0, 0, 1)", 1)
            .does("fault()", 0).does("crib(0, 1, 0, 3, 0, 1, 1)", INDEX).does("fault()", 3);
    }

    /** All calls that name no FAULTS, ahead of a fault and behind it. */
    private void faultOfOtherCalls() {
        Run run = run("The FAULT of the latest call that names one:").text("r1").does("code(0, 5)", NONE).page(0, 0, 1)
            .letter(0, 0, 0).letter(1, 0, 0).letter(2, 0, 0);
        run.does("cell(0, 0, 0)", LOST).does("fault()", 1);
        String[] calls = {"code(0, 5)", "weight(0, 0)", "ofDrill(0)", "ofPage(0, 0)", "ofLetter(0, 0)", "read(0, 0,"
            + " -1)",
            "need(0, 0)", "out(0, 0)", "last(0, -1)", "beside(0, 1, 0)", "spread()", "chance(0, 1, 0)", "best(0)",
            "strip(0, 1, 0, 0)", "with(0, 1, 2, 0)", "open(0)", "makers(0, 0)", "like(0, 0)", "next(0)", "lose(0)",
                "trace()",
            "many(0)"};
        int[] due = {5, 0, NONE, 0, 0, 1, 0, NONE, 100, 1, 1, 1, 0, 1, 1, 3, 10000, 1, NONE, 0, 0, 1};
        for (int k = 0; k < calls.length; k++) {
            run.still(calls[k], due[k]).does(calls[k], due[k]).does("fault()", 1);
        }
        run.does("bag(0, 0, 1)", 1).does("fault()", 1).does("tell(0)", 1).does("fault()", 1).does("mark(0)", 0)
            .does("fault()", 1).does("lose(3)", 1).does("fault()", 1);
    }

    private void many() {
        run("`int many(int what)`: How many: 0 WORDS with a CODE, 1 PAGES, 2 LETTERS, 3 BAGS. OUTSIDE.")
            .stillEach("many(%d)", 0, 0, 1, 2, 3).stillEach("many(%d)", OUTSIDE, -1, 4, MIN, MAX)
            .does("code(0, 5)", NONE).does("code(1, 6)", NONE).does("code(2, 7)", NONE).does("code(3, 8)", NONE)
            .does("weight(9, 1)", 0).text("r1").page(0, 0, 1).letter(0, 0, 0).letter(1, 0, 0).does("bag(0, 0, 1)", 1)
            .does("bag(0, 0, 1)", 2).does("bag(0, 0, 1)", 3)
            .still("many(0)", 4).still("many(1)", 1).still("many(2)", 2).still("many(3)", 3)
            .does("code(3, -1)", 8).still("many(0)", 3).does("code(3, -1)", NONE).still("many(0)", 3)
            .stillEach("many(%d)", OUTSIDE, -1, 4, MIN, MAX);
    }

    private void manyFull() {
        Run run = run("0 WORDS with a CODE, 1 PAGES, 2 LETTERS, 3 BAGS.").text("r1").does("sheet(0, 0, 1)", 1);
        for (int word = 0; word < 30; word++) {
            run.does("code(%d, %d)".formatted(word, 3 * word), NONE);
        }
        for (int p = 0; p < 24; p++) {
            run.does("page(0, 0, 0, 0, 0, 1)", p);
        }
        for (int x = 0; x < 20; x++) {
            run.does("letter(0, 0, 0, 0, 0, 1)", x).does("bag(0, 0, 1)", x + 1);
        }
        run.does("page(0, 0, 0, 0, 0, 1)", FULL).does("letter(0, 0, 0, 0, 0, 1)", FULL).does("bag(0, 0, 1)", FULL)
            .does("many(0)", 30).does("many(1)", 24).does("many(2)", 20).does("many(3)", 20);
    }
}
