/** Promises 23 to 25. */
public final class MakersTest {
    private static final Checks checks = new Checks("MakersTest");

    public static void main(String[] args) {
        promise23Makers();
        promise24Like();
        promise25Next();
        checks.end();
    }

    private static void dueMakers(BurntPads pads, int p, int count, int a, int b) {
        checks.due("makers(" + p + ", 0)", pads.makers(p, 0), count);
        checks.due("makers(" + p + ", 1)", pads.makers(p, 1), a);
        checks.due("makers(" + p + ", 2)", pads.makers(p, 2), b);
    }

    private static void promise23Makers() {
        BurntPads pads = new BurntPads();
        dueMakers(pads, Checks.page(pads, 0, 0, 77), 10000, 0, 0);
        dueMakers(pads, Checks.page(pads, 0, 0, 77, 5), 100, 0, 5);
        dueMakers(pads, Checks.page(pads, 0, 0, 1, 4, 13), 1, 3, 1);
        dueMakers(pads, Checks.page(pads, 0, 0, 1, 4, 13, 40, 21, 64), 1, 3, 1);
        dueMakers(pads, Checks.page(pads, 0, 0, 1, 4, 13, 40, 21, 65), 0, BurntPads.NONE, BurntPads.NONE);
        dueMakers(pads, Checks.page(pads, 0, 0, 2, 7, 22, 67), 5, 3, 1);
        dueMakers(pads, Checks.page(pads, 0, 0, 5, 5, 5), 100, 0, 5);
        dueMakers(pads, Checks.page(pads, 2, 0, 0, 50, 0), 50, 1, 50);
        dueMakers(pads, Checks.page(pads, 1, 0, 1, 2, 1, 3), 0, BurntPads.NONE, BurntPads.NONE);
        dueMakers(pads, Checks.page(pads, 0, 0, 0, 99, 98), 1, 1, 99);
        checks.due("makers(10, 3)", pads.makers(10, 3), BurntPads.UNKNOWN);
        checks.due("makers(-1, 0)", pads.makers(-1, 0), BurntPads.UNKNOWN);
        checks.due("makers(0, 3)", pads.makers(0, 3), BurntPads.OUTSIDE);
        checks.due("makers(0, -1)", pads.makers(0, -1), BurntPads.OUTSIDE);
    }

    private static void promise24Like() {
        BurntPads pads = new BurntPads();
        int one = Checks.page(pads, 0, 0, 77);
        int other = Checks.page(pads, 0, 0, 3);
        int two = Checks.page(pads, 0, 0, 1, 4);
        int long1 = Checks.page(pads, 0, 0, 1, 4, 13, 40);
        int long2 = Checks.page(pads, 1, 0, 2, 7, 22, 67);
        int none = Checks.page(pads, 0, 0, 1, 2, 1, 3);
        checks.due("one, one", pads.like(one, one), 1);
        checks.due("one, another of one", pads.like(one, other), 1);
        checks.due("one, two", pads.like(one, two), 0);
        checks.due("two, one", pads.like(two, one), 1);
        checks.due("two, four", pads.like(two, long1), 0);
        checks.due("four, two", pads.like(long1, two), 1);
        checks.due("four, four", pads.like(long1, long2), 1);
        checks.due("four of 5 makers, four of one", pads.like(long2, long1), 0);
        checks.due("none, one", pads.like(none, one), 0);
        checks.due("none, none", pads.like(none, none), 0);
        checks.due("four, none", pads.like(long1, none), 0);
        int makersZeroAndFifty = Checks.page(pads, 0, 0, 7, 5, 5);
        checks.due("both a MADE it", pads.like(makersZeroAndFifty, Checks.page(pads, 0, 0, 1, 5)), 1);
        checks.due("a 50 MADE it, a 0 did not", pads.like(makersZeroAndFifty, Checks.page(pads, 0, 0, 0, 55)), 0);
        checks.due("a 0 MADE it, a 50 did not", pads.like(makersZeroAndFifty, Checks.page(pads, 0, 0, 0, 5)), 0);
        checks.due("just a 0", pads.like(Checks.page(pads, 0, 0, 0, 1, 1), Checks.page(pads, 0, 0, 9, 1)), 1);
        checks.due("like(12, 0)", pads.like(12, 0), BurntPads.UNKNOWN);
        checks.due("like(0, 12)", pads.like(0, 12), BurntPads.UNKNOWN);
        checks.due("like(-1, 0)", pads.like(-1, 0), BurntPads.UNKNOWN);
    }

    /** Makers of two GROUPS are at odds, if these are not alike; those of three never are. */
    private static void promise25Next() {
        BurntPads pads = new BurntPads();
        checks.due("one", pads.next(Checks.page(pads, 0, 0, 77)), BurntPads.NONE);
        checks.due("two", pads.next(Checks.page(pads, 0, 0, 77, 5)), BurntPads.NONE);
        checks.due("two, 50 apart", pads.next(Checks.page(pads, 0, 0, 0, 50)), BurntPads.NONE);
        checks.due("two alike", pads.next(Checks.page(pads, 0, 0, 5, 5)), 5);
        checks.due("one maker", pads.next(Checks.page(pads, 0, 0, 1, 4, 13)), 40);
        checks.due("one maker, through 99", pads.next(Checks.page(pads, 0, 0, 99, 0, 1)), 2);
        checks.due("two makers", pads.next(Checks.page(pads, 0, 0, 0, 2, 4)), 6);
        checks.due("five makers", pads.next(Checks.page(pads, 0, 0, 2, 7, 22, 67)), 2);
        checks.due("fifty makers", pads.next(Checks.page(pads, 2, 0, 0, 50, 0)), 50);
        checks.due("fifty makers, five groups", pads.next(Checks.page(pads, 0, 0, 0, 50, 50, 50, 50)), 50);
        checks.due("no maker of three", pads.next(Checks.page(pads, 0, 0, 0, 2, 5)), BurntPads.NONE);
        checks.due("no maker of four", pads.next(Checks.page(pads, 0, 0, 1, 2, 1, 3)), BurntPads.NONE);
        checks.due("one maker, a 0", pads.next(Checks.page(pads, 0, 0, 0, 1, 1)), 1);
        checks.due("next(13)", pads.next(13), BurntPads.UNKNOWN);
        checks.due("next(-1)", pads.next(-1), BurntPads.UNKNOWN);
    }
}
