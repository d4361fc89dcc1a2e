import java.lang.reflect.InvocationTargetException;
import java.lang.reflect.Method;
import java.lang.reflect.Modifier;
import java.util.ArrayList;
import java.util.Collections;
import java.util.Comparator;
import java.util.HashMap;
import java.util.LinkedHashSet;
import java.util.List;
import java.util.Map;
import java.util.Random;

/** Runs of 512 calls on BurntPads and on PlainModel, drawn from fixed seeds: all answers must be the same. */
public final class PlainModelTest {
    private static final int RUNS = 400;
    private static final int CALLS = 512;
    private static final int FEWEST_ANSWERS = 100;
    private static final int[] FAR = {Integer.MIN_VALUE, Integer.MIN_VALUE + 9, -101, -100, 60, 61, 99, 100, 101, 9999,
        10000, Integer.MAX_VALUE - 1, Integer.MAX_VALUE};
    private static final String[] TEXTS = {"", "r1", "r1;c", "b42;r1", "r1;l3", "c;l2;r1", "b7;l4;c;r1", "r1;b0;c",
        "l6;r1", "b99;c", "r0"};

    private static final int[] STRIDES = {1, 3, 7, 9, 11, 33, 49, 51};
    /** Those that seldom answer, where all numbers are drawn. */
    private static final List<String> OFTEN = List.of("beside", "best", "cell", "chance", "copy", "read", "strip",
        "with");

    private final Random random;
    private final String run;
    private final BurntPads pads = new BurntPads();
    private final PlainModel model = new PlainModel();
    private final List<String> calls = new ArrayList<>();
    private final Map<String, Integer> answered;
    private final int words;
    private int wrong;

    private PlainModelTest(long seed, Map<String, Integer> answered) {
        random = new Random(seed);
        run = "run of seed " + seed;
        words = 1 + random.nextInt(30);
        this.answered = answered;
    }

    public static void main(String[] args) throws IllegalAccessException {
        Map<String, Integer> answered = new HashMap<>();
        int wrong = 0;
        for (int seed = 0; seed < RUNS && wrong == 0; seed++) {
            PlainModelTest test = new PlainModelTest(seed, answered);
            test.play();
            wrong += test.wrong;
        }
        for (Method method : new LinkedHashSet<>(face())) {
            if (answered.getOrDefault(method.getName(), 0) < FEWEST_ANSWERS) {
                wrong++;
                System.out.println("PlainModelTest: hardly any good answer of " + method.getName());
            }
        }
        System.out.println("PlainModelTest: " + RUNS + " runs, " + wrong + " faults");
        if (wrong != 0) {
            System.exit(1);
        }
    }

    private static List<Method> face() {
        List<Method> face = new ArrayList<>();
        for (Method method : BurntPads.class.getDeclaredMethods()) {
            if (Modifier.isPublic(method.getModifiers())) {
                face.add(method);
            }
            if (OFTEN.contains(method.getName())) {
                face.addAll(Collections.nCopies(5, method));
            }
        }
        face.sort(Comparator.comparing(Method::getName));
        return face;
    }

    private void play() throws IllegalAccessException {
        begin();
        List<Method> face = face();
        while (calls.size() < CALLS && wrong == 0) {
            if (random.nextInt(20) == 0) {
                bringSomething();
            } else {
                Method method = face.get(random.nextInt(face.size()));
                call(method.getName(), numbersFor(method));
            }
        }
    }

    /** A run that begins with nothing seldom comes to two LETTERS. */
    private void begin() throws IllegalAccessException {
        int stride = STRIDES[random.nextInt(STRIDES.length)];
        int first = random.nextInt(100);
        for (int word = 0; word < words; word++) {
            call("code", word, (first + word * stride) % 100);
            call("weight", word, random.nextInt(4));
        }
        if (random.nextInt(8) == 0) {
            return;
        }
        bringText("r1");
        int several = 2 + random.nextInt(3);
        for (int k = 0; k < several; k++) {
            bringPage();
        }
        for (int k = 0; k < 2 * several; k++) {
            bringLetter();
        }
    }

    private void bringSomething() throws IllegalAccessException {
        switch (random.nextInt(5)) {
            case 0 -> bringText(random.nextInt(3) == 0 ? anyText() : TEXTS[random.nextInt(TEXTS.length)]);
            case 1 -> bringPage();
            case 2, 3 -> bringLetter();
            default -> bringCrib();
        }
    }

    private void bringText(String text) throws IllegalAccessException {
        if (bring(Checks.codesOf(text))) {
            call("drill", 3, 0, 0, text.length());
        }
    }

    private void bringPage() throws IllegalAccessException {
        int[] groups = groupsOfAPage();
        if (bring(groups)) {
            call("page", Math.max(0, random.nextInt(5) - 2), random.nextInt(6), 3, 0, 0, groups.length);
        }
    }

    private void bringLetter() throws IllegalAccessException {
        int[] row = random.ints(random.nextInt(9), 0, words).toArray();
        if (bring(row)) {
            call("letter", random.nextInt(5), random.nextInt(100), 3, 0, 0, row.length);
        }
    }

    private void bringCrib() throws IllegalAccessException {
        int[] row = random.ints(1 + random.nextInt(3), 0, words).toArray();
        if (bring(row)) {
            call("crib", random.nextInt(4), random.nextInt(4), random.nextInt(2), 3, 0, 0, row.length);
        }
    }

    private String anyText() {
        StringBuilder text = new StringBuilder();
        int size = 1 + random.nextInt(12);
        for (int k = 0; k < size; k++) {
            text.append("bbllccrr;;;;;;0123456789x".charAt(random.nextInt(25)));
        }
        return text.toString();
    }

    private int[] groupsOfAPage() {
        int[] groups = random.ints(random.nextInt(3) == 0 ? 1 + random.nextInt(12) : 12, 0, 100).toArray();
        int a = random.nextInt(100);
        int b = random.nextInt(100);
        for (int k = 1; k < groups.length && random.nextInt(40) != 0; k++) {
            groups[k] = (groups[k - 1] * a + b) % 100;
        }
        return groups;
    }

    /** The row to SHEET 3, as bytes; false, if there are too few calls left for it. */
    private boolean bring(int[] row) throws IllegalAccessException {
        if (calls.size() + row.length + 2 > CALLS) {
            return false;
        }
        call("sheet", 3, 0, row.length);
        for (int i = 0; i < row.length; i++) {
            call("put", 3, i, row[i]);
        }
        return true;
    }

    private int[] numbersFor(Method method) {
        int[] numbers = new int[method.getParameterCount()];
        for (int k = 0; k < numbers.length; k++) {
            int sort = random.nextInt(100);
            if (sort < 80) {
                numbers[k] = random.nextInt(4);
            } else if (sort < 88) {
                numbers[k] = random.nextInt(24);
            } else if (sort < 93) {
                numbers[k] = random.nextInt(102) - 2;
            } else if (sort < 97) {
                numbers[k] = random.nextInt(1000);
            } else {
                numbers[k] = FAR[random.nextInt(FAR.length)];
            }
        }
        return numbers;
    }

    private void call(String name, int... numbers) throws IllegalAccessException {
        StringBuilder told = new StringBuilder(name).append('(');
        for (int k = 0; k < numbers.length; k++) {
            told.append(k == 0 ? "" : ", ").append(numbers[k]);
        }
        calls.add(told.append(')').toString());
        String got = answer(pads, name, numbers);
        String want = answer(model, name, numbers);
        if (!got.equals(want)) {
            wrong++;
            System.out.println("PlainModelTest: " + run + ": " + told + " answered " + got + ", due is " + want);
            System.out.println("  behind " + calls);
            return;
        }
        if (Long.parseLong(got) >= 0) {
            answered.merge(name, 1, Integer::sum);
        }
    }

    private static String answer(Object of, String name, int[] numbers) throws IllegalAccessException {
        Class<?>[] types = new Class<?>[numbers.length];
        Object[] values = new Object[numbers.length];
        for (int k = 0; k < numbers.length; k++) {
            types[k] = int.class;
            values[k] = numbers[k];
        }
        try {
            return of.getClass().getMethod(name, types).invoke(of, values).toString();
        } catch (InvocationTargetException thrown) {
            return "with " + thrown.getCause();
        } catch (NoSuchMethodException missing) {
            return "nothing, there is no such call";
        }
    }
}
