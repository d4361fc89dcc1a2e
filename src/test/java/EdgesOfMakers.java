/** Part 5 and promises 23 to 25. */
final class EdgesOfMakers extends Edges {
    EdgesOfMakers(Checks checks, Quotes quotes) {
        super(checks, quotes);
    }

    @Override
    void hold() {
        made();
        makersRefused();
        like();
        likeRefused();
        next();
        nextRefused();
    }

    private static void dueMakers(Run run, int p, int count, int a, int b) {
        run.still("makers(%d, 0)".formatted(p), count).still("makers(%d, 1)".formatted(p), a)
            .still("makers(%d, 2)".formatted(p), b);
    }

    private void made() {
        Run run = run("MAKERS: a, b (0 .. 99 each): they MADE a PAGE, if each GROUP of it but the first is a times the"
            + " one ahead and b.");
        dueMakers(run.page(0, 0, 77), 0, 10000, 0, 0);
        dueMakers(run.page(1, 0, 77, 5), 1, 100, 0, 5);
        dueMakers(run.page(2, 0, 0, 0), 2, 100, 0, 0);
        dueMakers(run.page(3, 0, 1, 4, 13), 3, 1, 3, 1);
        // 99 times 99 and 99 is 9900
        dueMakers(run.page(4, 0, 99, 0, 99), 4, 1, 99, 99);
        dueMakers(run.page(5, 0, 0, 50, 0), 5, 50, 1, 50);
        dueMakers(run.page(6, 0, 5, 5, 5), 6, 100, 0, 5);
        dueMakers(run.page(7, 0, 0, 1, 1), 7, 1, 0, 1);
        dueMakers(run.page(8, 0, 1, 2, 1, 3), 8, 0, NONE, NONE);
        dueMakers(run.page(9, 0, 0, 2, 5), 9, 0, NONE, NONE);
        // all GROUPS count, those that may not be used, too
        dueMakers(run.page(10, 2, 1, 4, 13), 10, 1, 3, 1);
        dueMakers(run.page(11, 2, 1, 4, 14), 11, 1, 70, 34);
        Run twelve = run("if each GROUP of it but the first is a times the one ahead and b.");
        dueMakers(twelve.page(0, 0, 1, 4, 13, 40, 21, 64, 93, 80, 41, 24, 73, 20), 0, 1, 3, 1);
        dueMakers(twelve.page(1, 0, 1, 4, 13, 40, 21, 64, 93, 80, 41, 24, 73, 21), 1, 0, NONE, NONE);
        dueMakers(twelve.page(2, 0, 2, 4, 13, 40, 21, 64, 93, 80, 41, 24, 73, 20), 2, 0, NONE, NONE);
        dueMakers(twelve.page(3, 0, 7, 7, 7, 7, 7, 7, 7, 7, 7, 7, 7, 7), 3, 100, 0, 7);
        dueMakers(twelve.page(4, 0, 9, 8, 7, 6, 5, 4, 3, 2, 1, 0, 99, 98), 4, 1, 1, 99);
    }

    private void makersRefused() {
        run("How many MAKERS MADE a PAGE (what 0), the least a (1), the least b with it (2; NONE: there is none)."
            + " UNKNOWN; OUTSIDE.").stillEach("makers(%d, 0)", UNKNOWN, 0, 23).page(0, 0, 1, 2).page(1, 0, 1, 2, 1, 3)
            .stillEach("makers(%d, 3)", UNKNOWN, -1, 2, 23, 24, MIN, MAX)
            .stillEach("makers(0, %d)", OUTSIDE, -1, 3, MIN, MAX)
            .stillEach("makers(1, %d)", OUTSIDE, -1, 3).still("makers(0, 0)", 100).still("makers(0, 2)", 2)
            .still("makers(1, 0)", 0).still("makers(1, 1)", NONE).still("makers(1, 2)", NONE);
    }

    private void like() {
        Run run = run("LIKE: all MAKERS that MADE a PAGE MADE another one, too (there is one at least).");
        run.page(0, 0, 77).page(1, 0, 3).page(2, 0, 1, 4).page(3, 0, 1, 4, 13, 40).page(4, 0, 2, 7, 22, 67)
            .page(5, 0, 1, 2, 1, 3).page(6, 0, 7, 5, 5).page(7, 0, 1, 5).page(8, 0, 0, 5).page(9, 0, 0, 55)
            .page(10, 0, 5, 5, 5).page(11, 0, 5, 5);
        int[][] like = {{0, 0}, {0, 1}, {1, 0}, {2, 0}, {2, 2}, {3, 2}, {3, 3}, {3, 4}, {4, 4}, {4, 0}, {3, 0}, {6, 7},
            {6, 0},
            {10, 11}, {11, 10}, {11, 0}};
        for (int[] pair : like) {
            run.still("like(%d, %d)".formatted(pair[0], pair[1]), 1);
        }
        int[][] unlike = {{0, 2}, {0, 3}, {2, 3}, {4, 3}, {5, 0}, {5, 5}, {3, 5}, {0, 5}, {6, 8}, {6, 9}, {7, 6}, {10,
            2}, {2, 10},
            {0, 11}};
        for (int[] pair : unlike) {
            run.still("like(%d, %d)".formatted(pair[0], pair[1]), 0);
        }
    }

    private void likeRefused() {
        run("`int like(int p, int q)`: Whether a PAGE is LIKE another one: 1, 0. UNKNOWN.").page(0, 0, 1)
            .page(1, 0, 1, 2).stillEach("like(%d, 0)", UNKNOWN, -1, 2, 23, 24, MIN, MAX)
            .stillEach("like(0, %d)", UNKNOWN, -1, 2, 23, 24, MIN, MAX).still("like(2, 2)", UNKNOWN)
            .still("like(1, 0)", 1).still("like(0, 1)", 0);
    }

    private void next() {
        Run run = run("NEXT: if all MAKERS that MADE a PAGE tell the same GROUP behind its last one (there is one at"
            + " least), that.");
        int[][] pages = {{77}, {77, 5}, {0, 50}, {5, 5}, {0, 0}, {99, 99}, {1, 4, 13}, {99, 0, 1}, {0, 2, 4}, {2, 7,
            22, 67},
            {0, 50, 0}, {0, 50, 50, 50, 50}, {0, 2, 5}, {1, 2, 1, 3}, {0, 1, 1}, {99, 0, 99}};
        int[] due = {NONE, NONE, NONE, 5, 0, 99, 40, 2, 6, 2, 50, 50, NONE, NONE, 1, 0};
        for (int p = 0; p < pages.length; p++) {
            run.page(p, p % 3, pages[p]).still("next(%d)".formatted(p), due[p]);
        }
        run("behind its last one").page(0, 0, 1, 4, 13, 40, 21, 64, 93, 80, 41, 24, 73, 20).still("next(0)", 61);
    }

    private void nextRefused() {
        run("`int next(int p)`: NEXT of a PAGE; NONE. UNKNOWN.").page(0, 0, 1).page(1, 0, 3, 3)
            .stillEach("next(%d)", UNKNOWN, -1, 2, 23, 24, MIN, MAX).still("next(0)", NONE).still("next(1)", 3);
    }
}
