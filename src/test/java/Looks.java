import java.util.ArrayList;
import java.util.List;

/** All that calls can tell of an object but fault(), call by call; the object is good for nothing behind it. */
final class Looks {
    private static final int FIRST_GROUP = 10;

    private final BurntPads pads;
    private final List<String> seen = new ArrayList<>();

    private Looks(BurntPads pads) {
        this.pads = pads;
    }

    static List<String> at(BurntPads pads) {
        Looks looks = new Looks(pads);
        looks.see("trace()");
        looks.seeEach("ofDrill(%d)", 0, 4);
        looks.seePages();
        looks.seeLetters();
        looks.seePosts();
        looks.seeSheets();
        looks.seeWhatOnlyAChangeTells();
        return looks.seen;
    }

    private long see(String call) {
        long answer = Run.answer(pads, call);
        seen.add(call + " = " + answer);
        return answer;
    }

    private void seeEach(String call, int first, long count) {
        for (int number = first; number < first + count; number++) {
            see(call.formatted(number));
        }
    }

    private void seePages() {
        long count = see("many(1)");
        for (int p = 0; p < count; p++) {
            String call = "ofPage(" + p + ", %d)";
            seeEach(call, 0, 2);
            long size = see(call.formatted(2));
            seeEach(call, 3, 3);
            seeEach(call, FIRST_GROUP, size);
        }
    }

    private void seeLetters() {
        long count = see("many(2)");
        for (int x = 0; x < count; x++) {
            String call = "ofLetter(" + x + ", %d)";
            long page = see(call.formatted(0));
            see(call.formatted(1));
            seeEach(call, FIRST_GROUP, see(call.formatted(2)));
            see("read(" + x + ", " + page + ", -1)");
        }
        see("open(99)");
        see("best(1)");
        see("spread()");
    }

    private void seePosts() {
        see("many(3)");
        seeEach("out(%d, 0)", 0, 6);
        seeEach("last(9999, %d)", 0, 6);
    }

    private void seeSheets() {
        for (int k = 0; k < 4; k++) {
            for (int lane = 0; lane < 3; lane++) {
                int i = 0;
                while (see("cell(" + k + ", " + i + ", " + lane + ")") != BurntPads.LOST) {
                    i++;
                }
                see("fault()");
            }
        }
    }

    /** NEEDS, WEIGHTS and CODES are told by calls that change them. */
    private void seeWhatOnlyAChangeTells() {
        see("many(0)");
        seeEach("need(%d, 0)", 0, 6);
        seeEach("weight(%d, 0)", 0, 30);
        seeEach("code(%d, -1)", 0, 30);
    }
}
