/** Part 3 and promises 11 to 14. */
final class EdgesOfPosts extends Edges {
    EdgesOfPosts(Checks checks, Quotes quotes) {
        super(checks, quotes);
    }

    @Override
    void hold() {
        needs();
        bagsEver();
        bagRefused();
        outDays();
        outBags();
        outRefused();
        lastDays();
        lastOfAll();
        parted();
        lastRefused();
    }

    private void needs() {
        Run run = run("NEED of a POST: so many PAGES a DAY (0 .. 9; 0 at first).");
        for (int post = 0; post < 6; post++) {
            run.does("need(%d, %d)".formatted(post, 9 - post), 0);
        }
        for (int post = 0; post < 6; post++) {
            run.still("need(%d, %d)".formatted(post, 9 - post), 9 - post);
        }
        run("`int need(int post, int n)`: NEED of a POST becomes n: what it was. UNKNOWN; OUTSIDE.")
            .does("need(0, 9)", 0).does("need(0, 0)", 9).does("need(5, 8)", 0).does("need(0, 1)", 0)
            .stillEach("need(%d, 5)", UNKNOWN, -1, 6, MIN, MAX).stillEach("need(5, %d)", OUTSIDE, -1, 10, MIN, MAX)
            .stillEach("need(6, %d)", UNKNOWN, -1, 10).stillEach("need(-1, %d)", UNKNOWN, -1, 10);
    }

    private void bagsEver() {
        Run run = run("BAGS, 20 ever: so many PAGES (1 .. 99) come to a POST on a DAY (may be used that DAY).");
        run.does("need(0, 1)", 0).does("need(5, 9)", 0);
        for (int bag = 1; bag <= 20; bag++) {
            run.does("bag(%d, %d, %d)".formatted(bag % 2 * 5, bag % 2 * 99, bag % 2 * 98 + 1), bag);
            run.still("many(3)", bag);
        }
        run.still("bag(0, 0, 1)", FULL).still("bag(5, 99, 99)", FULL).still("out(0, 0)", 10)
            .still("last(9999, 5)", 891);
        run.stillEach("bag(6, 100, %d)", UNKNOWN, 0, 1).stillEach("bag(0, %d, 1)", OUTSIDE, -1, 100)
            .stillEach("bag(0, 0, %d)", OUTSIDE, 0, 100);
    }

    private void bagRefused() {
        run("`int bag(int post, int day, int n)`: A BAG: how many there are. UNKNOWN; OUTSIDE; FULL.")
            .does("need(0, 9)", 0).does("need(5, 9)", 0)
            .stillEach("bag(%d, 0, 1)", UNKNOWN, -1, 6, MIN, MAX).stillEach("bag(%d, -1, 0)", UNKNOWN, -1, 6)
            .stillEach("bag(0, %d, 1)", OUTSIDE, -1, 100, MIN, MAX)
            .stillEach("bag(0, 0, %d)", OUTSIDE, -1, 0, 100, MIN, MAX)
            .still("bag(0, 100, 0)", OUTSIDE)
            .does("bag(0, 0, 1)", 1).does("bag(5, 99, 99)", 2).does("bag(0, 99, 1)", 3).does("bag(5, 0, 99)", 4)
            .still("out(0, 0)", 0).still("out(0, 8)", 1).still("out(0, 7)", 0).still("out(5, 0)", 11);
    }

    private void outDays() {
        String first = "OUT of a POST that has n more at first: the first DAY (0 .. 99) on which it has less than it"
            + " NEEDS;";
        run(first).does("need(0, 9)", 0).does("need(1, 1)", 0)
            .stillEach("out(0, %d)", 0, 0, 1, 8).stillEach("out(0, %d)", 1, 9, 10, 17).still("out(0, 18)", 2)
            .stillEach("out(0, %d)", 98, 882, 890).stillEach("out(0, %d)", 99, 891, 899)
            .stillEach("out(0, %d)", NONE, 900, 901, 9999)
            .still("out(1, 0)", 0).still("out(1, 1)", 1).still("out(1, 99)", 99).still("out(1, 100)", NONE)
            .stillEach("out(2, %d)", NONE, 0, 1, 9999);
        run(first).does("need(0, 9)", 0).does("need(0, 0)", 9).still("out(0, 0)", NONE).does("need(0, 2)", 0)
            .still("out(0, 0)", 0).still("out(0, 1)", 0).still("out(0, 2)", 1);
    }

    private void outBags() {
        run("each DAY it uses what it NEEDS (what there is).").does("need(0, 3)", 0).does("bag(0, 2, 4)", 1)
            .still("out(0, 5)", 1).still("out(0, 6)", 3).still("out(0, 7)", 3).still("out(0, 8)", 4)
            .does("bag(0, 2, 2)", 2).still("out(0, 6)", 4);
        run("come to a POST on a DAY (may be used that DAY).").does("need(0, 1)", 0).does("need(3, 1)", 0)
            .does("bag(0, 0, 99)", 1).still("out(0, 0)", 99).still("out(0, 1)", NONE).does("bag(0, 99, 1)", 2)
            .still("out(0, 0)", NONE).still("out(3, 0)", 0).does("bag(3, 1, 99)", 3).still("out(3, 0)", 0)
            .still("out(3, 1)", NONE).does("need(3, 2)", 1).still("out(3, 1)", 0).still("out(3, 2)", 50)
            .still("out(3, 3)", 51);
    }

    private void outRefused() {
        run("`int out(int post, int n)`: OUT of a POST with n (0 .. 9999) more at first; NONE. UNKNOWN; OUTSIDE.")
            .does("need(0, 1)", 0).does("need(5, 1)", 0).still("out(0, 0)", 0).still("out(5, 0)", 0)
            .still("out(0, 9999)", NONE).stillEach("out(%d, 0)", UNKNOWN, -1, 6, MIN, MAX)
            .stillEach("out(0, %d)", OUTSIDE, -1, 10000, MIN, MAX).stillEach("out(6, %d)", UNKNOWN, -1, 10000)
            .stillEach("out(-1, %d)", UNKNOWN, -1, 10000);
    }

    private void lastDays() {
        String greatest = "LAST of n PAGES in the press: the greatest D (0 .. 100) such that they can be parted over"
            + " POSTS at first so that none is OUT ahead of DAY D (with its BAGS);";
        run(greatest).stillEach("last(%d, -1)", 100, 0, 1, 9999);
        run(greatest).does("need(3, 1)", 0).still("last(0, -1)", 0).still("last(1, -1)", 1).still("last(98, -1)", 98)
            .still("last(99, -1)", 99).stillEach("last(%d, -1)", 100, 100, 101, 9999);
        run(greatest).does("need(0, 2)", 0).does("need(5, 3)", 0).stillEach("last(%d, -1)", 0, 0, 4)
            .stillEach("last(%d, -1)", 1, 5, 9).still("last(10, -1)", 2).still("last(499, -1)", 99)
            .still("last(500, -1)", 100);
        run(greatest).does("need(0, 2)", 0).does("bag(0, 0, 2)", 1).still("last(0, -1)", 1).does("bag(0, 1, 1)", 2)
            .still("last(0, -1)", 1).still("last(1, -1)", 2).does("bag(0, 99, 99)", 3).still("last(194, -1)", 98)
            .stillEach("last(%d, -1)", 100, 195, 196);
    }

    private void lastOfAll() {
        Run run = run("(with its BAGS);");
        for (int post = 0; post < 6; post++) {
            run.does("need(%d, 9)".formatted(post), 0);
        }
        run.still("last(53, -1)", 0).still("last(54, -1)", 1).still("last(5399, -1)", 99).still("last(5400, -1)", 100)
            .still("last(9999, -1)", 100).still("last(5399, 5)", 891).still("last(5400, 5)", 900);
        for (int bag = 1; bag <= 20; bag++) {
            run.does("bag(0, 0, 99)", bag);
        }
        run.still("last(4499, -1)", 99).still("last(4500, -1)", 100).still("last(4500, 0)", 0)
            .still("last(4500, 1)", 900);
    }

    private void parted() {
        run("PARTED so: each POST as few as it takes for that.").does("need(0, 2)", 0).does("need(1, 1)", 0)
            .does("bag(0, 3, 99)", 1).does("bag(2, 0, 5)", 2)
            .still("last(8, -1)", 2).still("last(8, 0)", 4).still("last(8, 1)", 2).still("last(8, 2)", 0)
            .still("last(9, -1)", 3).still("last(9, 0)", 6).still("last(9, 1)", 3).still("last(9, 5)", 0)
            .still("last(10, -1)", 4).still("last(10, 0)", 6).still("last(10, 1)", 4)
            .still("last(59, -1)", 52).still("last(59, 0)", 6).still("last(59, 1)", 52)
            .still("last(60, -1)", 53).still("last(60, 0)", 7).still("last(60, 1)", 53)
            .still("last(9999, 0)", 101).still("last(9999, 1)", 100).stillEach("last(9999, %d)", 0, 2, 3, 4, 5)
            .stillEach("last(0, %d)", 0, -1, 0, 1, 5);
    }

    private void lastRefused() {
        run("LAST of n PAGES (0 .. 9999) (post -1); how many a POST gets, PARTED so. OUTSIDE: n; UNKNOWN.")
            .does("need(0, 9)", 0).does("need(5, 8)", 0).still("last(0, -1)", 0).still("last(9999, -1)", 100)
            .still("last(9999, 0)", 900).still("last(9999, 5)", 800)
            .stillEach("last(%d, -1)", OUTSIDE, -1, 10000, MIN, MAX).stillEach("last(%d, 6)", OUTSIDE, -1, 10000)
            .stillEach("last(%d, -2)", OUTSIDE, -1, 10000).stillEach("last(0, %d)", UNKNOWN, -2, 6, MIN, MAX)
            .stillEach("last(9999, %d)", UNKNOWN, -2, 6);
    }
}
