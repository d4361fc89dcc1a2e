/** Promises 11 to 14. */
public final class PostsTest {
    private static final Checks checks = new Checks("PostsTest");

    public static void main(String[] args) {
        promise11Need();
        promise12Bag();
        promise12Refused();
        promise13Out();
        promise13Refused();
        promise14Last();
        promise14Parted();
        promise14Refused();
        checks.end();
    }

    private static void promise11Need() {
        BurntPads pads = new BurntPads();
        checks.due("need(0, 9)", pads.need(0, 9), 0);
        checks.due("need(0, 4)", pads.need(0, 4), 9);
        checks.due("need(5, 1)", pads.need(5, 1), 0);
        checks.due("need(6, 10)", pads.need(6, 10), BurntPads.UNKNOWN);
        checks.due("need(-1, 0)", pads.need(-1, 0), BurntPads.UNKNOWN);
        checks.due("need(0, 10)", pads.need(0, 10), BurntPads.OUTSIDE);
        checks.due("need(0, -1)", pads.need(0, -1), BurntPads.OUTSIDE);
        checks.due("need(0, 0), unchanged", pads.need(0, 0), 4);
    }

    private static void promise12Bag() {
        BurntPads pads = new BurntPads();
        for (int bag = 1; bag <= 20; bag++) {
            checks.due("bag " + bag, pads.bag(bag % 6, bag * 4 + 19, 1 + bag % 99), bag);
        }
        checks.due("many(3)", pads.many(3), 20);
        checks.due("bag 21", pads.bag(0, 0, 1), BurntPads.FULL);
        checks.due("bag 21 of 100", pads.bag(0, 0, 100), BurntPads.OUTSIDE);
        checks.due("many(3) behind it", pads.many(3), 20);
        pads.need(0, 1);
        checks.due("a bag that was refused brings nothing", pads.out(0, 0), 0);
    }

    private static void promise12Refused() {
        BurntPads pads = new BurntPads();
        checks.due("bag(6, 100, 0)", pads.bag(6, 100, 0), BurntPads.UNKNOWN);
        checks.due("bag(-1, 0, 1)", pads.bag(-1, 0, 1), BurntPads.UNKNOWN);
        checks.due("bag(0, 100, 1)", pads.bag(0, 100, 1), BurntPads.OUTSIDE);
        checks.due("bag(0, -1, 1)", pads.bag(0, -1, 1), BurntPads.OUTSIDE);
        checks.due("bag(0, 0, 0)", pads.bag(0, 0, 0), BurntPads.OUTSIDE);
        checks.due("bag(0, 0, 100)", pads.bag(0, 0, 100), BurntPads.OUTSIDE);
        checks.due("many(3)", pads.many(3), 0);
        checks.due("bag(0, 99, 99)", pads.bag(0, 99, 99), 1);
    }

    private static void promise13Out() {
        BurntPads pads = new BurntPads();
        checks.due("no need", pads.out(0, 0), BurntPads.NONE);
        pads.need(0, 3);
        checks.due("none at all", pads.out(0, 0), 0);
        checks.due("less than a day's", pads.out(0, 2), 0);
        checks.due("a day's", pads.out(0, 3), 1);
        checks.due("two on the second day", pads.out(0, 5), 1);
        checks.due("one less than all", pads.out(0, 299), 99);
        checks.due("all", pads.out(0, 300), BurntPads.NONE);
        checks.due("the most", pads.out(0, 9999), BurntPads.NONE);
        pads.bag(0, 2, 4);
        checks.due("a bag comes too late", pads.out(0, 5), 1);
        checks.due("a bag is used on its day", pads.out(0, 6), 3);
        checks.due("a bag and what was left", pads.out(0, 8), 4);
        pads.bag(0, 2, 2);
        checks.due("two bags on a day", pads.out(0, 6), 4);
        pads.bag(1, 0, 99);
        checks.due("another post's bag", pads.out(0, 6), 4);
        pads.need(0, 2);
        checks.due("another need", pads.out(0, 0), 0);
        checks.due("another need, with more", pads.out(0, 4), 5);
    }

    private static void promise13Refused() {
        BurntPads pads = new BurntPads();
        checks.due("out(6, 10000)", pads.out(6, 10000), BurntPads.UNKNOWN);
        checks.due("out(-1, 0)", pads.out(-1, 0), BurntPads.UNKNOWN);
        checks.due("out(0, 10000)", pads.out(0, 10000), BurntPads.OUTSIDE);
        checks.due("out(0, -1)", pads.out(0, -1), BurntPads.OUTSIDE);
        checks.due("out(5, 9999)", pads.out(5, 9999), BurntPads.NONE);
    }

    private static void dueParts(BurntPads pads, int n, int day, int... parts) {
        checks.due("last(" + n + ", -1)", pads.last(n, -1), day);
        for (int post = 0; post < 6; post++) {
            checks.due("last(" + n + ", " + post + ")", pads.last(n, post), post < parts.length ? parts[post] : 0);
        }
    }

    private static void promise14Last() {
        BurntPads pads = new BurntPads();
        dueParts(pads, 0, 100);
        pads.need(0, 1);
        pads.need(5, 2);
        dueParts(pads, 2, 0);
        dueParts(pads, 3, 1, 1, 0, 0, 0, 0, 2);
        dueParts(pads, 5, 1, 1, 0, 0, 0, 0, 2);
        dueParts(pads, 299, 99, 99, 0, 0, 0, 0, 198);
        dueParts(pads, 300, 100, 100, 0, 0, 0, 0, 200);
        dueParts(pads, 9999, 100, 100, 0, 0, 0, 0, 200);
        dueParts(pads, 6, 2, 2, 0, 0, 0, 0, 4);
    }

    private static void promise14Parted() {
        BurntPads pads = new BurntPads();
        pads.need(0, 2);
        pads.need(1, 1);
        pads.bag(0, 3, 99);
        dueParts(pads, 0, 0);
        dueParts(pads, 9, 3, 6, 3);
        dueParts(pads, 10, 4, 6, 4);
        dueParts(pads, 58, 52, 6, 52);
        dueParts(pads, 59, 52, 6, 52);
        dueParts(pads, 60, 53, 7, 53);
        pads.bag(0, 99, 99);
        dueParts(pads, 9999, 100, 99, 100);
        checks.due("parting changes nothing", pads.out(0, 6), 52);
    }

    private static void promise14Refused() {
        BurntPads pads = new BurntPads();
        checks.due("last(10000, 6)", pads.last(10000, 6), BurntPads.OUTSIDE);
        checks.due("last(-1, 0)", pads.last(-1, 0), BurntPads.OUTSIDE);
        checks.due("last(0, 6)", pads.last(0, 6), BurntPads.UNKNOWN);
        checks.due("last(0, -2)", pads.last(0, -2), BurntPads.UNKNOWN);
    }
}
