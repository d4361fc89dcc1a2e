import java.lang.reflect.InvocationTargetException;
import java.lang.reflect.Method;
import java.lang.reflect.Modifier;
import java.util.ArrayList;
import java.util.HashMap;
import java.util.List;
import java.util.Map;
import java.util.Set;

/**
 * A run of calls on a new object that holds one sentence of the document; calls are told as texts. What a
 * call must leave as it was is seen on copies: new objects that get the same calls.
 */
final class Run {
    private static final int MOST_CALLS = 512;
    private static final Set<String> NAME_FAULTS = Set.of("drill", "page", "letter", "crib", "sheet", "put", "cell",
        "copy", "as");
    /** Both change nothing but fault(), in any state. */
    private static final String COMES_TO_SIZE = "sheet(0, 0, -1)", IS_REFUSED = "sheet(4, 0, 0)";
    private static final int SIZE = 4;
    private static final Map<String, Method> FACE = face();

    private final Checks checks;
    private final String sentence;
    private final BurntPads pads = new BurntPads();
    private final List<String> calls = new ArrayList<>();
    /** It gets the calls that leave all as it was, too, since they might leave something for those behind them. */
    private final BurntPads askedOften = new BurntPads();
    private int asked;

    Run(Checks checks, String sentence) {
        this.checks = checks;
        this.sentence = sentence;
    }

    private static Map<String, Method> face() {
        Map<String, Method> face = new HashMap<>();
        for (Method method : BurntPads.class.getDeclaredMethods()) {
            if (Modifier.isPublic(method.getModifiers())) {
                face.put(method.getName(), method);
            }
        }
        return face;
    }

    private static String nameOf(String call) {
        return call.substring(0, call.indexOf('('));
    }

    /** A call such as "code(0, 99)". */
    static long answer(BurntPads pads, String call) {
        String inside = call.substring(call.indexOf('(') + 1, call.length() - 1);
        String[] numbers = inside.isEmpty() ? new String[0] : inside.split(", ");
        Object[] values = new Object[numbers.length];
        for (int k = 0; k < numbers.length; k++) {
            values[k] = Integer.valueOf(numbers[k]);
        }
        try {
            return ((Number) FACE.get(nameOf(call)).invoke(pads, values)).longValue();
        } catch (InvocationTargetException | IllegalAccessException thrown) {
            throw new IllegalStateException(call + " did not answer", thrown);
        }
    }

    private void due(String call, long got, long want) {
        checks.due("'" + sentence + "': " + call, got, want);
    }

    private void dueOfAskedOften(String call, long want) {
        asked++;
        if (asked <= MOST_CALLS && !call.equals("fault()")) {
            due(call + " behind all calls", answer(askedOften, call), want);
        }
    }

    private void dueCount(int count) {
        checks.holds("'" + sentence + "': " + count + " calls on one object", count <= MOST_CALLS);
    }

    /** The answer of a call that belongs to the run. */
    Run does(String call, long want) {
        calls.add(call);
        dueCount(calls.size());
        due(call, answer(pads, call), want);
        dueOfAskedOften(call, want);
        return this;
    }

    /** The answer of a call that must leave all as it was, but fault(), if it names FAULTS. */
    Run still(String call, long want) {
        boolean isFault = want <= Checks.NULL && want >= Checks.SIZE;
        return stillWithFault(call, want, isFault ? (int) (-10 - want) : 0);
    }

    /** The call once for each number, which stands in for %d. */
    Run stillEach(String call, long want, int... numbers) {
        for (int number : numbers) {
            still(call.formatted(number), want);
        }
        return this;
    }

    /** As still, where the answer does not tell the fault. */
    Run stillWithFault(String call, long want, int fault) {
        boolean namesFaults = NAME_FAULTS.contains(nameOf(call));
        dueOfAskedOften(call, want);
        dueStill(call, want, COMES_TO_SIZE, namesFaults ? fault : SIZE);
        dueStill(call, want, IS_REFUSED, namesFaults ? fault : 0);
        return this;
    }

    private void dueStill(String call, long want, String ahead, int fault) {
        BurntPads with = copy(ahead);
        due(call, answer(with, call), want);
        due("fault() behind " + call + " behind " + ahead, with.fault(), fault);
        List<String> seenWith = Looks.at(with);
        List<String> seenWithout = Looks.at(copy(ahead));
        dueCount(calls.size() + 3 + seenWith.size());
        checks.holds("'" + sentence + "': " + call + " changed nothing but " + firstUnlike(seenWithout, seenWith),
            seenWith.equals(seenWithout));
    }

    private static String firstUnlike(List<String> before, List<String> behind) {
        for (int k = 0; k < Math.min(before.size(), behind.size()); k++) {
            if (!before.get(k).equals(behind.get(k))) {
                return before.get(k) + " to " + behind.get(k);
            }
        }
        return "how much there is to see";
    }

    private BurntPads copy(String behind) {
        BurntPads copy = new BurntPads();
        calls.forEach(call -> answer(copy, call));
        answer(copy, behind);
        return copy;
    }

    /** A SHEET gets these cells. */
    Run fill(int sheet, int lane, int... cells) {
        does("sheet(%d, %d, %d)".formatted(sheet, lane, cells.length), 1);
        for (int i = 0; i < cells.length; i++) {
            if (cells[i] != 0) {
                does("put(%d, %d, %d)".formatted(sheet, i, cells[i]), 1);
            }
        }
        return this;
    }

    /** THE DRILL becomes this TEXT, by way of SHEET 3. */
    Run text(String text) {
        fill(3, Checks.BYTES, Checks.codesOf(text));
        long items = text.isEmpty() ? 0 : text.chars().filter(code -> code == ';').count() + 1;
        return does("drill(3, 0, 0, %d)".formatted(text.length()), items);
    }

    /** A PAGE of these GROUPS at POST 0, by way of SHEET 3; it must get this number. */
    Run page(int number, int kind, int... groups) {
        fill(3, Checks.BYTES, groups);
        return does("page(%d, 0, 3, 0, 0, %d)".formatted(kind, groups.length), number);
    }

    /** A LETTER of these WORDS on DAY 0, by way of SHEET 3: what it must answer. */
    Run letter(long want, int page, int... words) {
        fill(3, Checks.BYTES, words);
        return does("letter(%d, 0, 3, 0, 0, %d)".formatted(page, words.length), want);
    }

    /** The GROUPS of a LETTER, and that there are no more. */
    Run groups(int letter, int... groups) {
        still("ofLetter(%d, 2)".formatted(letter), groups.length);
        for (int k = 0; k < groups.length; k++) {
            still("ofLetter(%d, %d)".formatted(letter, 10 + k), groups[k]);
        }
        return still("ofLetter(%d, %d)".formatted(letter, 10 + groups.length), BurntPads.OUTSIDE);
    }
}
