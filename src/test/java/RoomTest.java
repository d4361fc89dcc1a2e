import com.sun.management.ThreadMXBean;
import java.lang.management.ManagementFactory;

/** What an object and its 512 calls take of the one room in which all calls of a run live. */
public final class RoomTest {
    private static final Checks checks = new Checks("RoomTest");
    private static final int CALLS = 512;
    /** Far below the room of a run: 7.3 million elements take some 29 million bytes. */
    private static final long MOST_BYTES = 400_000;

    private interface Call {
        long on(BurntPads pads, int time);
    }

    public static void main(String[] args) {
        dueRoom("a new object", (pads, time) -> time == 0 ? new BurntPads().many(0) : 0);
        dueRoom("drill", (pads, time) -> pads.drill(0, 0, 0, 11));
        dueRoom("sheet", (pads, time) -> pads.sheet(1, time % 3, 60));
        dueRoom("page", (pads, time) -> pads.page(2, 0, 2, 0, 0, 12));
        dueRoom("letter", (pads, time) -> pads.letter(0, 0, 3, 0, 0, 6));
        dueRoom("read", (pads, time) -> pads.read(0, 0, 11));
        dueRoom("last", (pads, time) -> pads.last(9999, time % 6));
        dueRoom("chance", (pads, time) -> pads.chance(0, 1, time % 2));
        dueRoom("best", (pads, time) -> pads.best(1));
        dueRoom("strip", (pads, time) -> pads.strip(0, 1, 3, 2));
        dueRoom("crib", (pads, time) -> pads.crib(0, 1, 0, 3, 0, 0, 6));
        dueRoom("like", (pads, time) -> pads.like(0, 1));
        dueRoom("copy", (pads, time) -> pads.copy(2, 0, 2, 1, 11));
        dueRoom("tell", (pads, time) -> pads.tell(1));
        checks.end();
    }

    private static BurntPads filled() {
        BurntPads pads = new BurntPads();
        Checks.fill(pads, 0, Checks.BYTES, Checks.codesOf("b42;l3;c;r1"));
        Checks.fill(pads, 2, Checks.BYTES, 1, 2, 3, 4, 5, 6, 7, 8, 9, 10, 11, 12);
        pads.drill(0, 0, 0, 11);
        for (int word = 0; word < 30; word++) {
            pads.code(word, word * 3);
        }
        pads.page(0, 0, 2, 0, 0, 12);
        pads.page(2, 0, 2, 0, 0, 12);
        Checks.fill(pads, 3, Checks.BYTES, 0, 1, 2, 3, 4, 5);
        pads.letter(0, 0, 3, 0, 0, 6);
        pads.letter(0, 0, 3, 0, 0, 6);
        return pads;
    }

    private static void dueRoom(String name, Call call) {
        ThreadMXBean thread = (ThreadMXBean) ManagementFactory.getThreadMXBean();
        long me = Thread.currentThread().getId();
        BurntPads pads = filled();
        call.on(filled(), 0);
        long before = thread.getThreadAllocatedBytes(me);
        for (int time = 0; time < CALLS; time++) {
            call.on(pads, time);
        }
        long bytes = thread.getThreadAllocatedBytes(me) - before;
        checks.holds(name + " takes " + bytes + " bytes", bytes < MOST_BYTES);
    }
}
