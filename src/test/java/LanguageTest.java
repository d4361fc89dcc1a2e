import java.io.IOException;
import java.lang.reflect.Executable;
import java.lang.reflect.Field;
import java.lang.reflect.Method;
import java.lang.reflect.Modifier;
import java.nio.charset.StandardCharsets;
import java.nio.file.Files;
import java.nio.file.Path;
import java.util.ArrayList;
import java.util.Arrays;
import java.util.List;
import java.util.Set;
import java.util.TreeSet;
import java.util.regex.Matcher;
import java.util.regex.Pattern;

/** The face of the document, and those rules of LANGUAGE.md that can be seen without running the class. */
public final class LanguageTest {
    private static final Checks checks = new Checks("LanguageTest");
    private static final String FACE = "code(2) weight(2) drill(4) ofDrill(1) page(6) ofPage(2) letter(6) ofLetter(2)"
        + " read(3) need(2) bag(3) out(2) last(2) beside(3) spread(0) chance(3) best(1) strip(4) with(4) crib(7)"
        + " open(1) makers(2) like(2) next(1) sheet(3) lose(1) put(3) cell(3) copy(5) tell(1) mark(1) as(2) trace(0)"
        + " fault(0) many(1)";
    private static final Set<String> CONSTANTS = Set.of("UNKNOWN", "OUTSIDE", "STATE", "FULL", "NONE", "LOST");
    private static final String[] RULED_OUT = {"throw", "throws", "try", "catch", "synchronized", "assert", "package",
        "hashCode", "toString", "double", "float"};

    public static void main(String[] args) throws IOException {
        String source = Files.readString(Path.of("src/main/java/BurntPads.java"), StandardCharsets.US_ASCII);
        theFace();
        nothingElseIsSeen();
        classesInside();
        staticFields();
        wordsRuledOut(source);
        methodsStayShort(source);
        checks.end();
    }

    private static void theFace() {
        Set<String> due = new TreeSet<>(Arrays.asList(FACE.split(" ")));
        Set<String> seen = new TreeSet<>();
        for (Method method : BurntPads.class.getDeclaredMethods()) {
            if (Modifier.isPublic(method.getModifiers())) {
                seen.add(method.getName() + "(" + method.getParameterCount() + ")");
                boolean isLong = Set.of("chance", "cell").contains(method.getName());
                checks.holds("what " + method.getName() + " answers", method.getReturnType() == (isLong ? long.class
                    : int.class));
                for (Class<?> type : method.getParameterTypes()) {
                    checks.holds("what " + method.getName() + " takes", type == int.class);
                }
            }
        }
        checks.holds("the public methods " + seen, seen.equals(due));
        checks.holds("public and final", Modifier.isPublic(BurntPads.class.getModifiers())
            && Modifier.isFinal(BurntPads.class.getModifiers()));
        checks.due("constructors", BurntPads.class.getDeclaredConstructors().length, 1);
        checks.due("parameters of the public constructor", BurntPads.class.getConstructors()[0].getParameterCount(), 0);
    }

    private static void nothingElseIsSeen() {
        for (Field field : BurntPads.class.getDeclaredFields()) {
            boolean isPublic = Modifier.isPublic(field.getModifiers());
            checks.holds("who sees " + field.getName(), isPublic == CONSTANTS.contains(field.getName())
                && (isPublic || Modifier.isPrivate(field.getModifiers())));
        }
        for (Method method : BurntPads.class.getDeclaredMethods()) {
            checks.holds("who sees " + method.getName(), Modifier.isPublic(method.getModifiers())
                || Modifier.isPrivate(method.getModifiers()));
        }
    }

    private static List<Class<?>> classes() {
        List<Class<?>> classes = new ArrayList<>(Arrays.asList(BurntPads.class.getDeclaredClasses()));
        classes.add(BurntPads.class);
        return classes;
    }

    private static void classesInside() {
        Set<String> publicNames = new TreeSet<>();
        for (Method method : BurntPads.class.getMethods()) {
            publicNames.add(method.getName());
        }
        checks.holds("at most twelve classes", classes().size() <= 12);
        for (Class<?> inside : BurntPads.class.getDeclaredClasses()) {
            checks.holds(inside + " is private and static", Modifier.isPrivate(inside.getModifiers())
                && Modifier.isStatic(inside.getModifiers()));
            for (Method method : inside.getDeclaredMethods()) {
                checks.holds(method + " has a name of its own", !publicNames.contains(method.getName()));
            }
        }
        for (Class<?> each : classes()) {
            List<Executable> all = new ArrayList<>(Arrays.asList(each.getDeclaredMethods()));
            all.addAll(Arrays.asList(each.getDeclaredConstructors()));
            for (Executable method : all) {
                checks.holds(method + " takes seven at most", method.getParameterCount() <= 7);
                checks.holds(method + " is written, not made", !method.isSynthetic());
            }
        }
    }

    private static void staticFields() {
        for (Class<?> each : classes()) {
            int own = 0;
            for (Field field : each.getDeclaredFields()) {
                boolean isStatic = Modifier.isStatic(field.getModifiers());
                own += isStatic ? 0 : 1;
                checks.holds(field + " is final, if it is static", !isStatic || Modifier.isFinal(field.getModifiers()));
            }
            checks.holds(each + " has twenty fields at most", own <= 20);
        }
    }

    private static String withoutComments(String source) {
        return source.replaceAll("(?s)/\\*.*?\\*/", "").replaceAll("//[^\n]*", "");
    }

    private static void wordsRuledOut(String source) {
        String code = withoutComments(source);
        for (String word : RULED_OUT) {
            checks.holds("there is no " + word, !Pattern.compile("(?<![A-Za-z])" + word + "(?![A-Za-z])").matcher(code)
                .find());
        }
        checks.holds("no lambda, no method reference", !code.contains("->") && !code.contains("::"));
        Matcher library = Pattern.compile("\\b(Math|System|Integer|Long|Arrays)\\.(\\w+)").matcher(code);
        Set<String> used = new TreeSet<>();
        while (library.find()) {
            used.add(library.group(1) + "." + library.group(2));
        }
        Set<String> allowed = Set.of("Math.floorMod", "Math.max", "Math.min", "System.arraycopy", "Long.MIN_VALUE");
        checks.holds("the library " + used, allowed.containsAll(used));
    }

    /** A method begins at a line that ends with "{" and stands as deep as members do; the next "}" there ends it. */
    private static void methodsStayShort(String source) {
        String[] lines = source.split("\n");
        for (String indent : new String[] {"    ", "        "}) {
            int begin = -1;
            for (int line = 0; line < lines.length; line++) {
                if (lines[line].matches(indent + "\\S.*\\) \\{")) {
                    begin = line;
                }
                if (begin >= 0 && lines[line].equals(indent + "}")) {
                    checks.holds("at most sixty lines: " + lines[begin].trim(), line - begin < 60);
                    begin = -1;
                }
            }
        }
    }
}
