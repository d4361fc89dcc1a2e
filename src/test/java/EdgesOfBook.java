import java.util.ArrayList;
import java.util.List;

/** Part 1 and promises 1 to 5. */
final class EdgesOfBook extends Edges {
    private static final String NEXT_CODE = "FIRST FAULT: the place (from 0 on) of the first code with which no TEXT"
        + " goes on";

    EdgesOfBook(Checks checks, Quotes quotes) {
        super(checks, quotes);
    }

    @Override
    void hold() {
        newObject();
        words();
        codes();
        weights();
        items();
        lettersOfItems();
        numbersOfItems();
        firstFaults();
        cellsThatAreNoCodes();
        drillAnswers();
        drillRefused();
        ofDrill();
    }

    private void newObject() {
        Run run = run("No CODES, PAGES, LETTERS, BAGS, SHEETS.");
        run.stillEach("many(%d)", 0, 0, 1, 2, 3);
        run.stillEach("ofPage(%d, 0)", UNKNOWN, 0, 23);
        run.stillEach("ofLetter(%d, 0)", UNKNOWN, 0, 19);
        run.stillEach("lose(%d)", 0, 0, 1, 2, 3);
        run.stillEach("put(%d, 0, 1)", NULL, 0, 1, 2, 3);
        for (int word = 0; word < 30; word++) {
            run.still("code(%d, -1)".formatted(word), NONE);
        }
        run("At first: no b, no l, no c, r 0.").still("ofDrill(0)", NONE).still("ofDrill(1)", NONE)
            .still("ofDrill(2)", 0).still("ofDrill(3)", 0);
    }

    private void words() {
        Run run = run("THE BOOK: WORDS 0 .. 29;");
        for (int word = 0; word < 30; word++) {
            run.does("code(%d, %d)".formatted(word, 99 - word), NONE);
        }
        run.still("many(0)", 30).still("code(0, 70)", STATE).still("code(29, 99)", STATE);
        run.does("code(0, 69)", 99).does("code(29, 99)", 70).still("many(0)", 30);
    }

    private void codes() {
        run("each has a CODE (a GROUP; no two the same), or none (at first), and a WEIGHT (0 .. 99; 0 at first).")
            .does("code(3, 50)", NONE).still("code(4, 50)", STATE).does("code(3, 51)", 50).does("code(4, 50)", NONE)
            .does("code(3, -1)", 51).does("code(5, 51)", NONE).still("code(3, 51)", STATE).still("many(0)", 2);
        run("`int code(int word, int group)`: The CODE of a WORD becomes so (-1: none): what it was (NONE).")
            .does("code(0, 0)", NONE).still("many(0)", 1).still("code(0, 0)", 0).does("code(0, 99)", 0)
            .still("many(0)", 1).does("code(0, -1)", 99).still("many(0)", 0).still("code(0, -1)", NONE)
            .does("code(29, 99)", NONE).does("code(29, 0)", 99).still("many(0)", 1);
        run("UNKNOWN; OUTSIDE; STATE: another WORD has it.").does("code(0, 0)", NONE).does("code(29, 99)", NONE)
            .does("code(7, 42)", NONE).stillEach("code(%d, 5)", UNKNOWN, -1, 30, MIN, MAX)
            .stillEach("code(1, %d)", OUTSIDE, -2, 100, MIN, MAX)
            .stillEach("code(1, %d)", STATE, 0, 42, 99)
            .stillEach("code(7, %d)", STATE, 0, 99)
            .stillEach("code(30, %d)", UNKNOWN, -2, -1, 0, 99, 100)
            .still("code(-1, 42)", UNKNOWN)
            .still("code(1, -1)", NONE);
    }

    private void weights() {
        Run run = run("and a WEIGHT (0 .. 99; 0 at first).");
        for (int word = 0; word < 30; word++) {
            run.does("weight(%d, %d)".formatted(word, word + 1), 0);
        }
        for (int word = 0; word < 30; word++) {
            run.still("weight(%d, %d)".formatted(word, word + 1), word + 1);
        }
        run("`int weight(int word, int n)`: WEIGHT of a WORD becomes n: what it was. UNKNOWN; OUTSIDE.")
            .does("weight(0, 99)", 0).does("weight(0, 0)", 99).does("weight(29, 98)", 0).does("weight(0, 1)", 0)
            .stillEach("weight(%d, 5)", UNKNOWN, -1, 30, MIN, MAX)
            .stillEach("weight(29, %d)", OUTSIDE, -1, 100, MIN, MAX)
            .stillEach("weight(30, %d)", UNKNOWN, -1, 100)
            .still("weight(29, 98)", 98);
    }

    /** A TEXT comes behind another one, so that it shows what it leaves as it was. */
    private Run behindAnother(String sentence, String text) {
        return run(sentence).text("b42;l3;c;r1").fill(0, SHORTS, Checks.codesOf(text));
    }

    private void told(String sentence, String text, int items, int begin, int multiple, int check, int reuse) {
        behindAnother(sentence, text).does("drill(0, 1, 0, %d)".formatted(text.length()), items)
            .still("ofDrill(0)", begin).still("ofDrill(1)", multiple).still("ofDrill(2)", check)
            .still("ofDrill(3)", reuse);
    }

    private void fault(String sentence, String text, int place) {
        behindAnother(sentence, text).still("drill(0, 1, 0, %d)".formatted(text.length()), -100 - place);
    }

    private void items() {
        told("no item (no codes of it at all)", "", 0, NONE, NONE, 0, 0);
        String some = "or 1 to 4 items with ; between, no letter twice:";
        told(some, "c", 1, NONE, NONE, 1, 0);
        told(some, "b7;l2", 2, 7, 2, 0, 0);
        told(some, "r1;c;l6", 3, NONE, 6, 1, 1);
        for (String text : allOrders("b98", "l5", "c", "r1")) {
            told(some, text, 4, 98, 5, 1, 1);
        }
        fault(some, "b1;l1;c;r0;", 10);
        fault(some, "b1;l1;c;r0;c", 10);
        fault(some, ";", 0);
        fault(some, ";c", 0);
        fault(some, "c;;r1", 2);
        for (String other : new String[] {"b1", "l1", "c", "r1", ":", "<", " ", "0"}) {
            fault(some, "c" + other, 1);
        }
        for (String item : new String[] {"b1", "l1", "r1"}) {
            fault(some, item + "c", 2);
            fault(some, item + ":c", 2);
            fault(some, item + "<c", 2);
        }
    }

    private static List<String> allOrders(String... items) {
        List<String> orders = new ArrayList<>();
        for (int a = 0; a < 4; a++) {
            for (int b = 0; b < 4; b++) {
                for (int c = 0; c < 4; c++) {
                    int d = 6 - a - b - c;
                    if (a != b && a != c && b != c && d != a && d != b && d != c && d >= 0 && d < 4) {
                        orders.add(items[a] + ";" + items[b] + ";" + items[c] + ";" + items[d]);
                    }
                }
            }
        }
        return orders;
    }

    private void lettersOfItems() {
        String twice = "(a letter told already, too)";
        String[] items = {"b1", "l1", "c", "r1"};
        for (String item : items) {
            fault(twice, item + ";" + item, item.length() + 1);
            fault(twice, item + ";" + item.charAt(0), item.length() + 1);
        }
        fault(twice, "b1;c;b2", 5);
        fault(twice, "r0;l1;c;r0", 8);
        fault(twice, "c;b1;l2;c", 8);
        String codes = "(Codes: b 98, l 108, c 99, r 114, ; 59, digits 48 .. 57.)";
        for (int code = 0; code < 128; code++) {
            if ("blcr".indexOf(code) < 0) {
                fault(codes, (char) code + "1", 0);
            }
        }
        told(codes, "b0", 1, 0, NONE, 0, 0);
        told(codes, "b9", 1, 9, NONE, 0, 0);
        told(codes, "b90", 1, 90, NONE, 0, 0);
        told(codes, "b09", 1, 9, NONE, 0, 0);
        fault(codes, "b/", 1);
        fault(codes, "b:", 1);
        fault(codes, "b5/", 2);
        fault(codes, "b5:", 2);
    }

    private void numbersOfItems() {
        for (int number = 0; number < 100; number++) {
            told("b and a number (letters begin with that GROUP)", "b" + number, 1, number, NONE, 0, 0);
        }
        String longer = "l and a number (they are made longer, to a multiple of it, 1 .. 6)";
        for (int number = 0; number < 100; number++) {
            if (number >= 1 && number <= 6) {
                told(longer, "l" + number, 1, NONE, number, 0, 0);
            } else {
                fault(longer, "l" + number, 1);
            }
        }
        told("c (they end with a check)", "c", 1, NONE, NONE, 1, 0);
        String again = "r and 0 or 1 (whether a PAGE may be used again).";
        told(again, "r0", 1, NONE, NONE, 0, 0);
        told(again, "r1", 1, NONE, NONE, 0, 1);
        for (int number = 2; number < 100; number++) {
            fault(again, "r" + number, 1);
        }
        String digits = "Numbers are of one or two digits.";
        told(digits, "b00;l06;r01", 3, 0, 6, 0, 1);
        told(digits, "r00;l01;b07", 3, 7, 1, 0, 0);
        fault(digits, "b000", 3);
        fault(digits, "b123", 3);
        fault(digits, "l001", 1);
        fault(digits, "l061", 3);
        fault(digits, "r011", 3);
        fault(digits, "c1", 1);
    }

    private void firstFaults() {
        fault(NEXT_CODE, "x", 0);
        fault(NEXT_CODE, "xx;;", 0);
        fault(NEXT_CODE, "bx", 1);
        fault(NEXT_CODE, "b;", 1);
        fault(NEXT_CODE, "bb", 1);
        fault(NEXT_CODE, "b5x;l9", 2);
        fault(NEXT_CODE, "b55x;l9", 3);
        fault(NEXT_CODE, "c;x", 2);
        fault(NEXT_CODE, "c;5", 2);
        fault(NEXT_CODE, "b1;l1;c;rx", 9);
        fault(NEXT_CODE, "b1;l1;c;r0x", 10);
        fault(NEXT_CODE, "b11;l01;c;r00x", 13);
        String tooSoon = "how many codes there are, if it just ends too soon";
        fault(tooSoon, "b", 1);
        fault(tooSoon, "l", 1);
        fault(tooSoon, "r", 1);
        fault(tooSoon, "c;", 2);
        fault(tooSoon, "b5;", 3);
        fault(tooSoon, "b55;", 4);
        fault(tooSoon, "c;l", 3);
        fault(tooSoon, "b99;l6;c;", 9);
        fault(tooSoon, "b99;l6;c;r", 10);
        String firstDigit = "of a number that is not as told its first digit.";
        fault(firstDigit, "l0x", 1);
        fault(firstDigit, "l7;x", 1);
        fault(firstDigit, "l99x", 1);
        fault(firstDigit, "l123", 1);
        fault(firstDigit, "r10", 1);
        fault(firstDigit, "r2;r2", 1);
        fault(firstDigit, "b42;l7", 5);
        fault(firstDigit, "b42;l10", 5);
        fault(firstDigit, "b42;l6;c;r2", 10);
    }

    /** What is cut as it comes to a cell is a code, what stands there beyond it is none. */
    private void cellsThatAreNoCodes() {
        run("THE DRILL by a TEXT:").fill(0, BYTES, 99 + 256, 99 - 256).fill(1, SHORTS, 99 + 65536, 99 + 256, 99 - 256)
            .fill(2, INTS, 99, 99 + 65536, 99 + 256, 99 - 256, 98, 48 + 256, 48 - 256)
            .does("drill(0, 0, 0, 1)", 1).does("drill(0, 0, 1, 1)", 1).does("drill(1, 1, 0, 1)", 1)
            .does("drill(2, 2, 0, 1)", 1).stillEach("drill(1, 1, %d, 1)", -100, 1, 2)
            .stillEach("drill(2, 2, %d, 1)", -100, 1, 2, 3)
            .still("drill(2, 2, 4, 2)", -101).still("drill(2, 2, 4, 1)", -101);
        run("THE DRILL by a TEXT:").fill(0, INTS, 98, MAX, 98, MIN, 98, -1)
            .stillEach("drill(0, 2, %d, 2)", -101, 0, 2, 4).stillEach("drill(0, 2, %d, 1)", -100, 1, 3, 5);
    }

    private void drillAnswers() {
        run("THE DRILL becomes a TEXT of n cells of a SHEET from i on, taken as a row of a LANE: how many items;")
            .fill(0, INTS, 120, 98, 49, 59, 99, 120).does("sheet(1, 1, 0)", 1)
            .does("drill(0, 2, 1, 4)", 2).still("ofDrill(0)", 1).still("ofDrill(2)", 1)
            .does("drill(0, 2, 1, 2)", 1).still("ofDrill(0)", 1).still("ofDrill(2)", 0)
            .does("drill(0, 2, 4, 1)", 1).still("ofDrill(0)", NONE).still("ofDrill(2)", 1)
            .does("drill(0, 2, 6, 0)", 0).still("ofDrill(2)", 0)
            .does("drill(0, 2, 4, 1)", 1).does("drill(1, 1, 0, 0)", 0).still("ofDrill(2)", 0)
            .does("drill(0, 2, 4, 1)", 1).does("drill(0, 2, 0, 0)", 0).still("ofDrill(2)", 0);
        run("-100 less the FIRST FAULT.").text("b42;l3;c;r1").fill(0, INTS, 120, 98, 49, 59, 99, 120)
            .still("drill(0, 2, 0, 6)", -100).still("drill(0, 2, 1, 1)", -101).still("drill(0, 2, 1, 3)", -103)
            .still("drill(0, 2, 1, 5)", -104).still("drill(0, 2, 3, 1)", -100).still("drill(0, 2, 5, 1)", -100);
    }

    private void drillRefused() {
        Run run = run("UNKNOWN; OUTSIDE: lane; CAST (nothing is no CAST); NULL; SIZE: n below 0; INDEX; -100 less it.");
        run.text("b42;l3;c;r1").fill(0, BYTES, 59, 99, 59, 99).does("sheet(2, 2, 0)", 1);
        run.stillEach("drill(%d, 3, -1, -1)", UNKNOWN, -1, 4, MIN, MAX);
        refuseCells(run, "drill(", BYTES, 4);
        run.still("drill(0, 0, 0, 4)", -100).still("drill(0, 0, 1, 2)", -102);
        run.still("drill(0, 0, 1, 3)", -102).does("drill(0, 0, 3, 1)", 1);
    }

    private void ofDrill() {
        String line = "Of THE DRILL: 0 b's GROUP (NONE), 1 l (NONE), 2 whether c is told (1, 0), 3 r. OUTSIDE.";
        run(line).stillEach("ofDrill(%d)", OUTSIDE, -1, 4, MIN, MAX).still("ofDrill(0)", NONE).still("ofDrill(1)", NONE)
            .text("b0;l1;c;r1").still("ofDrill(0)", 0).still("ofDrill(1)", 1).still("ofDrill(2)", 1)
            .still("ofDrill(3)", 1).stillEach("ofDrill(%d)", OUTSIDE, -1, 4, MIN, MAX);
    }
}
