/** Promises 1 to 5. */
public final class BookAndDrillTest {
    private static final Checks checks = new Checks("BookAndDrillTest");

    public static void main(String[] args) {
        promise1NewObject();
        promise2Code();
        promise2CodeRefused();
        promise3Weight();
        promise4Texts();
        promise4FirstFaults();
        promise4Refused();
        promise4KeepsTheDrill();
        promise5OfDrill();
        checks.end();
    }

    private static void promise1NewObject() {
        BurntPads pads = new BurntPads();
        for (int what = 0; what <= 3; what++) {
            checks.due("many(" + what + ")", pads.many(what), 0);
        }
        checks.due("ofPage(0, 0)", pads.ofPage(0, 0), BurntPads.UNKNOWN);
        checks.due("ofLetter(0, 0)", pads.ofLetter(0, 0), BurntPads.UNKNOWN);
        checks.due("spread()", pads.spread(), 0);
        checks.due("best(0)", pads.best(0), BurntPads.NONE);
        checks.due("trace()", pads.trace(), 0);
        checks.due("fault()", pads.fault(), 0);
        for (int k = 0; k < 4; k++) {
            checks.due("lose(" + k + ")", pads.lose(k), 0);
        }
        for (int word = 0; word < 30; word++) {
            checks.due("code(" + word + ", -1)", pads.code(word, -1), BurntPads.NONE);
            checks.due("weight(" + word + ", 0)", pads.weight(word, 0), 0);
        }
        for (int post = 0; post < 6; post++) {
            checks.due("need(" + post + ", 0)", pads.need(post, 0), 0);
        }
        BurntPads other = new BurntPads();
        pads.code(0, 1);
        checks.due("many(0) of another object", other.many(0), 0);
    }

    private static void promise2Code() {
        BurntPads pads = new BurntPads();
        checks.due("code(0, 0)", pads.code(0, 0), BurntPads.NONE);
        checks.due("code(29, 99)", pads.code(29, 99), BurntPads.NONE);
        checks.due("code(0, 0) again", pads.code(0, 0), 0);
        checks.due("code(29, 50)", pads.code(29, 50), 99);
        checks.due("code(1, 99), free again", pads.code(1, 99), BurntPads.NONE);
        checks.due("code(0, -1)", pads.code(0, -1), 0);
        checks.due("code(2, 0), free again", pads.code(2, 0), BurntPads.NONE);
        checks.due("many(0)", pads.many(0), 3);
        checks.due("code(0, -1), none", pads.code(0, -1), BurntPads.NONE);
        checks.due("many(0) behind it", pads.many(0), 3);
    }

    private static void promise2CodeRefused() {
        BurntPads pads = new BurntPads();
        pads.code(4, 7);
        checks.due("code(-1, 100)", pads.code(-1, 100), BurntPads.UNKNOWN);
        checks.due("code(30, 7)", pads.code(30, 7), BurntPads.UNKNOWN);
        checks.due("code(0, 100)", pads.code(0, 100), BurntPads.OUTSIDE);
        checks.due("code(0, -2)", pads.code(0, -2), BurntPads.OUTSIDE);
        checks.due("code(5, 7)", pads.code(5, 7), BurntPads.STATE);
        checks.due("code(5, -1), unchanged", pads.code(5, -1), BurntPads.NONE);
        checks.due("code(4, 7), unchanged", pads.code(4, 7), 7);
        checks.due("many(0)", pads.many(0), 1);
    }

    private static void promise3Weight() {
        BurntPads pads = new BurntPads();
        checks.due("weight(0, 99)", pads.weight(0, 99), 0);
        checks.due("weight(0, 0)", pads.weight(0, 0), 99);
        checks.due("weight(29, 5)", pads.weight(29, 5), 0);
        checks.due("weight(30, 100)", pads.weight(30, 100), BurntPads.UNKNOWN);
        checks.due("weight(-1, 0)", pads.weight(-1, 0), BurntPads.UNKNOWN);
        checks.due("weight(29, 100)", pads.weight(29, 100), BurntPads.OUTSIDE);
        checks.due("weight(29, -1)", pads.weight(29, -1), BurntPads.OUTSIDE);
        checks.due("weight(29, 0), unchanged", pads.weight(29, 0), 5);
    }

    private static void text(String text, int answer) {
        checks.due("drill of '" + text + "'", Checks.drill(new BurntPads(), text), answer);
    }

    private static void promise4Texts() {
        text("", 0);
        text("b0", 1);
        text("b00", 1);
        text("b99", 1);
        text("l1", 1);
        text("l6", 1);
        text("l06", 1);
        text("c", 1);
        text("r0", 1);
        text("r1", 1);
        text("r01", 1);
        text("c;b7", 2);
        text("r0;c;l3", 3);
        text("b42;l3;c;r1", 4);
        text("r1;c;l6;b9", 4);
    }

    private static void promise4FirstFaults() {
        text(";", -100);
        text("x", -100);
        text("5", -100);
        text("B5", -100);
        text("b", -101);
        text("b;", -101);
        text("bx", -101);
        text("b/", -101);
        text("b:", -101);
        text("b5:", -102);
        text("b5x", -102);
        text("b5l2", -102);
        text("b100", -103);
        text("b10x", -103);
        text("b5;", -103);
        text("b5;;", -103);
        text("b5;b6", -103);
        text("b5;l", -104);
        text("b5;l7", -104);
        text("b5;l12;x", -104);
        text("l0", -101);
        text("l00", -101);
        text("l7", -101);
        text("l12", -101);
        text("l123", -101);
        text("l061", -103);
        text("l1;l", -103);
        text("r2", -101);
        text("r10", -101);
        text("r0;r1", -103);
        text("r0x", -102);
        text("c1", -101);
        text("cc", -101);
        text("c;c", -102);
        text("b1;l1;c;r0;", -110);
        text("b1;l1;c;r0;b2", -110);
        text("b1;l1;c;r0x", -110);
        text("b1;l1;c;r9", -109);
        BurntPads pads = new BurntPads();
        Checks.fill(pads, 0, Checks.INTS, 98, 48 + 65536, 99 + 256);
        checks.due("an int is not cut", pads.drill(0, Checks.INTS, 0, 2), -101);
        checks.due("a code above 255", pads.drill(0, Checks.INTS, 2, 1), -100);
        Checks.fill(pads, 0, Checks.BYTES, 99 + 256);
        checks.due("a byte is cut as it is put", pads.drill(0, Checks.BYTES, 0, 1), 1);
    }

    private static void promise4Refused() {
        BurntPads pads = new BurntPads();
        Checks.fill(pads, 0, Checks.SHORTS, 0, 99, 59, 98, 53);
        checks.dueWithFault(pads, "some cells", pads.drill(0, 1, 1, 1), 1, 0);
        checks.dueWithFault(pads, "to the end", pads.drill(0, 1, 1, 4), 2, 0);
        checks.dueWithFault(pads, "none at the end", pads.drill(0, 1, 5, 0), 0, 0);
        checks.dueWithFault(pads, "none beyond", pads.drill(0, 1, 6, 0), Checks.INDEX, 3);
        checks.dueWithFault(pads, "sheet -1, lane 3", pads.drill(-1, 3, -1, -1), BurntPads.UNKNOWN, 0);
        checks.dueWithFault(pads, "i -1", pads.drill(0, 1, -1, 1), Checks.INDEX, 3);
        checks.dueWithFault(pads, "sheet 4", pads.drill(4, 0, 0, 0), BurntPads.UNKNOWN, 0);
        checks.dueWithFault(pads, "one too many", pads.drill(0, 1, 1, 5), Checks.INDEX, 3);
        checks.dueWithFault(pads, "lane 3", pads.drill(0, 3, -1, -1), BurntPads.OUTSIDE, 0);
        checks.dueWithFault(pads, "lane -1", pads.drill(1, -1, 0, 0), BurntPads.OUTSIDE, 0);
        checks.dueWithFault(pads, "n -1", pads.drill(0, 1, -1, -1), Checks.SIZE, 4);
        checks.dueWithFault(pads, "a text's fault", pads.drill(0, 1, 0, 1), -100, 0);
        checks.dueWithFault(pads, "another lane", pads.drill(0, 2, -1, -1), Checks.CAST, 2);
        checks.dueWithFault(pads, "nothing", pads.drill(1, 2, -1, -1), Checks.NULL, 1);
        checks.dueWithFault(pads, "far", pads.drill(0, 1, Integer.MAX_VALUE, Integer.MAX_VALUE), Checks.INDEX, 3);
        checks.dueWithFault(pads, "near and far", pads.drill(0, 1, 1, Integer.MAX_VALUE), Checks.INDEX, 3);
    }

    private static void dueDrill(BurntPads pads, int begin, int multiple, int check, int reuse) {
        checks.due("ofDrill(0)", pads.ofDrill(0), begin);
        checks.due("ofDrill(1)", pads.ofDrill(1), multiple);
        checks.due("ofDrill(2)", pads.ofDrill(2), check);
        checks.due("ofDrill(3)", pads.ofDrill(3), reuse);
    }

    private static void promise4KeepsTheDrill() {
        BurntPads pads = new BurntPads();
        Checks.drill(pads, "b42;l3;c;r1");
        Checks.drill(pads, "b7;r0;l9");
        pads.drill(3, 0, 0, 99);
        pads.drill(9, 0, 0, 0);
        dueDrill(pads, 42, 3, 1, 1);
    }

    private static void promise5OfDrill() {
        BurntPads pads = new BurntPads();
        dueDrill(pads, BurntPads.NONE, BurntPads.NONE, 0, 0);
        Checks.drill(pads, "b0;l1;c;r1");
        dueDrill(pads, 0, 1, 1, 1);
        Checks.drill(pads, "l6");
        dueDrill(pads, BurntPads.NONE, 6, 0, 0);
        Checks.drill(pads, "r0;b09");
        dueDrill(pads, 9, BurntPads.NONE, 0, 0);
        Checks.drill(pads, "");
        dueDrill(pads, BurntPads.NONE, BurntPads.NONE, 0, 0);
        checks.due("ofDrill(4)", pads.ofDrill(4), BurntPads.OUTSIDE);
        checks.due("ofDrill(-1)", pads.ofDrill(-1), BurntPads.OUTSIDE);
    }
}
