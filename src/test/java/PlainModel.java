import java.math.BigInteger;
import java.util.ArrayList;
import java.util.Arrays;
import java.util.HashSet;
import java.util.List;
import java.util.Set;
import java.util.regex.Matcher;
import java.util.regex.Pattern;

/**
 * The document's calls once more, each by trying out all that its words speak of: all pairs and triples
 * of WORDS, all 10000 MAKERS, all ways to begin. It shares no code and no short cut with BurntPads.
 */
public final class PlainModel {
    private static final int UNKNOWN = -1;
    private static final int OUTSIDE = -2;
    private static final int STATE = -3;
    private static final int FULL = -4;
    private static final int NONE = -9;
    private static final long LOST = Long.MIN_VALUE;
    private static final Pattern ITEM = Pattern.compile("c|[blr][0-9][0-9]?");

    private record Page(int kind, int post, List<Integer> groups) {
        int usable() {
            return Math.max(0, groups.size() - kind);
        }
    }

    private record Letter(int page, int day, List<Integer> groups) {
    }

    private record Bag(int post, int day, int n) {
    }

    private record Row(int lane, int[] cells) {
    }

    private record Pair(int u, int v) {
    }

    private final Integer[] codes = new Integer[30];
    private final int[] weights = new int[30];
    private String text = "";
    private final List<Page> pages = new ArrayList<>();
    private final List<Letter> letters = new ArrayList<>();
    private final int[] needs = new int[6];
    private final List<Bag> bags = new ArrayList<>();
    private final Row[] rows = new Row[4];
    private int trace;
    private int fault;

    private static boolean in(int n, int least, int greatest) {
        return n >= least && n <= greatest;
    }

    private static int rest(int n) {
        return ((n % 100) + 100) % 100;
    }

    // ---- 1

    public int code(int word, int group) {
        if (!in(word, 0, 29)) {
            return UNKNOWN;
        }
        if (!in(group, -1, 99)) {
            return OUTSIDE;
        }
        for (int other = 0; other < 30; other++) {
            if (other != word && codes[other] != null && codes[other] == group) {
                return STATE;
            }
        }
        int before = codes[word] == null ? NONE : codes[word];
        codes[word] = group == -1 ? null : Integer.valueOf(group);
        return before;
    }

    public int weight(int word, int n) {
        if (!in(word, 0, 29)) {
            return UNKNOWN;
        }
        if (!in(n, 0, 99)) {
            return OUTSIDE;
        }
        int before = weights[word];
        weights[word] = n;
        return before;
    }

    public int drill(int sheet, int lane, int i, int n) {
        fault = 0;
        if (!in(sheet, 0, 3)) {
            return UNKNOWN;
        }
        if (!in(lane, 0, 2)) {
            return OUTSIDE;
        }
        fault = faultOfCells(sheet, lane, i, n);
        if (fault != 0) {
            return -10 - fault;
        }
        StringBuilder codesOfText = new StringBuilder();
        for (int cell : cells(sheet, i, n)) {
            codesOfText.append(cell >= 0 && cell < 128 ? (char) cell : '?');
        }
        int items = items(codesOfText.toString());
        if (items >= 0) {
            text = codesOfText.toString();
        }
        return items;
    }

    /** How many items a TEXT has, or -100 less its FIRST FAULT. */
    private static int items(String text) {
        if (text.isEmpty()) {
            return 0;
        }
        Set<Character> told = new HashSet<>();
        int place = 0;
        while (true) {
            if (place == text.length() || !in("blcr".indexOf(text.charAt(place)), 0, 3)
                || !told.add(text.charAt(place))) {
                return -100 - place;
            }
            Matcher matcher = ITEM.matcher(text).region(place, text.length());
            if (!matcher.lookingAt() || !isNumberAsTold(matcher.group())) {
                return -100 - (place + 1);
            }
            place = matcher.end();
            if (place == text.length()) {
                return told.size();
            }
            if (text.charAt(place) != ';' || told.size() == 4) {
                return -100 - place;
            }
            place++;
        }
    }

    private static boolean isNumberAsTold(String item) {
        if (item.equals("c")) {
            return true;
        }
        int number = Integer.parseInt(item.substring(1));
        return switch (item.charAt(0)) {
            case 'b' -> in(number, 0, 99);
            case 'l' -> in(number, 1, 6);
            default -> in(number, 0, 1);
        };
    }

    /** The number of an item of THE DRILL; null, if it is not told. */
    private Integer told(char letter) {
        for (String item : text.split(";")) {
            if (!item.isEmpty() && item.charAt(0) == letter) {
                return letter == 'c' ? 1 : Integer.parseInt(item.substring(1));
            }
        }
        return null;
    }

    private boolean mayUseAgain() {
        return told('r') != null && told('r') == 1;
    }

    public int ofDrill(int what) {
        if (what == 0 || what == 1) {
            Integer number = told("bl".charAt(what));
            return number == null ? NONE : number;
        }
        if (what == 2) {
            return told('c') == null ? 0 : 1;
        }
        if (what == 3) {
            return mayUseAgain() ? 1 : 0;
        }
        return OUTSIDE;
    }

    // ---- 2

    public int page(int kind, int post, int sheet, int lane, int i, int n) {
        fault = 0;
        if (!in(sheet, 0, 3) || !in(post, 0, 5)) {
            return UNKNOWN;
        }
        if (!in(kind, 0, 2) || !in(lane, 0, 2)) {
            return OUTSIDE;
        }
        fault = faultOfCells(sheet, lane, i, n);
        if (fault != 0) {
            return -10 - fault;
        }
        List<Integer> groups = cells(sheet, i, n);
        if (!in(n, 1, 12) || groups.stream().anyMatch(group -> !in(group, 0, 99))) {
            return OUTSIDE;
        }
        if (pages.size() == 24) {
            return FULL;
        }
        pages.add(new Page(kind, post, groups));
        return pages.size() - 1;
    }

    private int lettersOf(int page) {
        return (int) letters.stream().filter(letter -> letter.page == page).count();
    }

    public int ofPage(int p, int what) {
        if (!in(p, 0, pages.size() - 1)) {
            return UNKNOWN;
        }
        Page page = pages.get(p);
        List<Integer> told = new ArrayList<>(List.of(page.kind, page.post, page.groups.size(), page.usable(),
            lettersOf(p) > 0 ? 1 : 0, lettersOf(p), OUTSIDE, OUTSIDE, OUTSIDE, OUTSIDE));
        told.addAll(page.groups);
        return in(what, 0, told.size() - 1) ? told.get(what) : OUTSIDE;
    }

    private static int check(List<Integer> groups) {
        int sum = 0;
        int place = 1;
        for (int group : groups) {
            sum += group * (place + 1);
            place++;
        }
        return rest(sum);
    }

    private List<Integer> laid(List<Integer> words) {
        List<Integer> laid = new ArrayList<>();
        if (told('b') != null) {
            laid.add(told('b'));
        }
        words.forEach(word -> laid.add(codes[word]));
        while (told('l') != null && laid.size() % told('l') != 0) {
            laid.add(0);
        }
        if (told('c') != null) {
            laid.add(check(laid));
        }
        return laid;
    }

    private boolean hasCodes(List<Integer> words) {
        return words.stream().allMatch(word -> in(word, 0, 29) && codes[word] != null);
    }

    public int letter(int p, int day, int sheet, int lane, int i, int n) {
        fault = 0;
        if (!in(p, 0, pages.size() - 1) || !in(sheet, 0, 3)) {
            return UNKNOWN;
        }
        if (!in(day, 0, 99) || !in(lane, 0, 2)) {
            return OUTSIDE;
        }
        fault = faultOfCells(sheet, lane, i, n);
        if (fault != 0) {
            return -10 - fault;
        }
        List<Integer> words = cells(sheet, i, n);
        if (!hasCodes(words)) {
            return UNKNOWN;
        }
        List<Integer> laid = laid(words);
        Page page = pages.get(p);
        if (lettersOf(p) > 0 && !mayUseAgain() || laid.size() > page.usable() || laid.isEmpty()) {
            return STATE;
        }
        if (letters.size() == 20) {
            return FULL;
        }
        List<Integer> groups = new ArrayList<>();
        for (int k = 0; k < laid.size(); k++) {
            groups.add(rest(laid.get(k) + page.groups.get(k)));
        }
        letters.add(new Letter(p, day, groups));
        return letters.size() - 1;
    }

    public int ofLetter(int x, int what) {
        if (!in(x, 0, letters.size() - 1)) {
            return UNKNOWN;
        }
        Letter letter = letters.get(x);
        List<Integer> told = new ArrayList<>(List.of(letter.page, letter.day, letter.groups.size()));
        told.addAll(java.util.Collections.nCopies(7, OUTSIDE));
        told.addAll(letter.groups);
        return in(what, 0, told.size() - 1) ? told.get(what) : OUTSIDE;
    }

    public int read(int x, int p, int k) {
        if (!in(x, 0, letters.size() - 1) || !in(p, 0, pages.size() - 1) || !in(k, -1, 11)) {
            return UNKNOWN;
        }
        List<Integer> letter = letters.get(x).groups;
        Page page = pages.get(p);
        List<Integer> read = new ArrayList<>();
        for (int place = 0; place < letter.size() && place < page.groups.size(); place++) {
            read.add(rest(letter.get(place) - page.groups.get(place)));
        }
        int end = read.size();
        if (told('b') != null && !read.get(0).equals(told('b')) || letter.size() > page.usable()
            || told('c') != null && read.get(end - 1) != check(read.subList(0, end - 1))) {
            return STATE;
        }
        List<Integer> words = new ArrayList<>();
        for (int place = told('b') == null ? 0 : 1; place < (told('c') == null ? end : end - 1); place++) {
            int word = Arrays.asList(codes).indexOf(read.get(place));
            if (word >= 0) {
                words.add(word);
            }
        }
        return k == -1 ? words.size() : k < words.size() ? words.get(k) : NONE;
    }

    // ---- 3

    public int need(int post, int n) {
        if (!in(post, 0, 5)) {
            return UNKNOWN;
        }
        if (!in(n, 0, 9)) {
            return OUTSIDE;
        }
        int before = needs[post];
        needs[post] = n;
        return before;
    }

    public int bag(int post, int day, int n) {
        if (!in(post, 0, 5)) {
            return UNKNOWN;
        }
        if (!in(day, 0, 99) || !in(n, 1, 99)) {
            return OUTSIDE;
        }
        if (bags.size() == 20) {
            return FULL;
        }
        bags.add(new Bag(post, day, n));
        return bags.size();
    }

    public int out(int post, int n) {
        if (!in(post, 0, 5)) {
            return UNKNOWN;
        }
        if (!in(n, 0, 9999)) {
            return OUTSIDE;
        }
        int stock = n;
        for (int day = 0; day < 100; day++) {
            for (Bag bag : bags) {
                stock += bag.post == post && bag.day == day ? bag.n : 0;
            }
            if (stock < needs[post]) {
                return day;
            }
            stock -= needs[post];
        }
        return NONE;
    }

    /** By DAY D: how many PAGES a POST wants at first, so as not to be OUT ahead of it. */
    private int[] wantedOf(int post) {
        int[] wanted = new int[101];
        int n = 0;
        for (int day = 0; day <= 100; day++) {
            while (in(out(post, n), 0, day - 1)) {
                n++;
            }
            wanted[day] = n;
        }
        return wanted;
    }

    public int last(int n, int post) {
        if (!in(n, 0, 9999)) {
            return OUTSIDE;
        }
        if (!in(post, -1, 5)) {
            return UNKNOWN;
        }
        int[][] wanted = new int[6][];
        for (int each = 0; each < 6; each++) {
            wanted[each] = wantedOf(each);
        }
        int day = 100;
        while (wantedByAll(wanted, day) > n) {
            day--;
        }
        return post == -1 ? day : wanted[post][day];
    }

    private static int wantedByAll(int[][] wanted, int day) {
        int sum = 0;
        for (int[] each : wanted) {
            sum += each[day];
        }
        return sum;
    }

    // ---- 4

    private boolean areLetters(int... numbers) {
        return Arrays.stream(numbers).allMatch(x -> in(x, 0, letters.size() - 1));
    }

    private int places(int a, int b) {
        return Math.min(8, Math.min(letters.get(a).groups.size(), letters.get(b).groups.size()));
    }

    private int group(int x, int place) {
        return letters.get(x).groups.get(place);
    }

    private List<Pair> pairs(int apart) {
        List<Pair> pairs = new ArrayList<>();
        for (int u = 0; u < 30; u++) {
            for (int v = 0; v < 30; v++) {
                if (codes[u] != null && codes[v] != null && rest(codes[u] - codes[v]) == apart) {
                    pairs.add(new Pair(u, v));
                }
            }
        }
        return pairs;
    }

    private List<Pair> pairs(int a, int b, int place) {
        return pairs(rest(group(a, place) - group(b, place)));
    }

    private int fitting(int a, int b) {
        int found = 0;
        for (int place = 0; place < places(a, b); place++) {
            found += pairs(a, b, place).isEmpty() ? 0 : 1;
        }
        return found;
    }

    public int beside(int a, int b, int what) {
        if (!areLetters(a, b)) {
            return UNKNOWN;
        }
        if (!in(what, 0, 3) || a == b) {
            return OUTSIDE;
        }
        int sure = 0;
        for (int place = 0; place < places(a, b); place++) {
            sure += pairs(a, b, place).size() == 1 ? 1 : 0;
        }
        int onePage = letters.get(a).page == letters.get(b).page ? 1 : 0;
        return new int[] {places(a, b), fitting(a, b), onePage, sure}[what];
    }

    public int spread() {
        int spread = 0;
        for (int apart = 0; apart < 100; apart++) {
            spread += pairs(apart).isEmpty() ? 0 : 1;
        }
        return spread;
    }

    /** CHANCE, its upper and its lower number, row by row of one place more. */
    private BigInteger[] chance(int a, int b) {
        BigInteger spread = BigInteger.valueOf(spread());
        BigInteger others = BigInteger.valueOf(100).subtract(spread);
        BigInteger[] rowsByFits = new BigInteger[9];
        Arrays.fill(rowsByFits, BigInteger.ZERO);
        rowsByFits[0] = BigInteger.ONE;
        for (int place = 0; place < places(a, b); place++) {
            for (int fits = 8; fits >= 0; fits--) {
                BigInteger fewer = fits == 0 ? BigInteger.ZERO : rowsByFits[fits - 1];
                rowsByFits[fits] = rowsByFits[fits].multiply(others).add(fewer.multiply(spread));
            }
        }
        BigInteger upper = BigInteger.ZERO;
        for (int fits = fitting(a, b); fits <= 8; fits++) {
            upper = upper.add(rowsByFits[fits]);
        }
        BigInteger lower = BigInteger.valueOf(100).pow(places(a, b));
        BigInteger divisor = upper.gcd(lower);
        return new BigInteger[] {upper.divide(divisor), lower.divide(divisor)};
    }

    public long chance(int a, int b, int which) {
        if (!areLetters(a, b) || !in(which, 0, 1) || a == b) {
            return LOST;
        }
        return chance(a, b)[which].longValueExact();
    }

    public int best(int what) {
        if (!in(what, 0, 1)) {
            return OUTSIDE;
        }
        int[] best = {NONE, NONE};
        BigInteger[] least = null;
        for (int a = 0; a < letters.size(); a++) {
            for (int b = a + 1; b < letters.size(); b++) {
                BigInteger[] chance = chance(a, b);
                if (least == null || chance[0].multiply(least[1]).compareTo(least[0].multiply(chance[1])) < 0) {
                    least = chance;
                    best = new int[] {a, b};
                }
            }
        }
        return best[what];
    }

    public int strip(int a, int b, int place, int what) {
        if (!areLetters(a, b) || !in(place, 0, places(a, b) - 1)) {
            return UNKNOWN;
        }
        if (!in(what, 0, 2) || a == b) {
            return OUTSIDE;
        }
        List<Pair> pairs = pairs(a, b, place);
        if (what == 0) {
            return pairs.size();
        }
        Pair likeliest = new Pair(NONE, NONE);
        int greatest = -1;
        for (Pair pair : pairs) {
            int product = (weights[pair.u] + 1) * (weights[pair.v] + 1);
            if (product > greatest) {
                greatest = product;
                likeliest = pair;
            }
        }
        return what == 1 ? likeliest.u : likeliest.v;
    }

    public int with(int a, int b, int c, int place) {
        if (!areLetters(a, b, c) || !in(place, 0, Math.min(places(a, b), places(a, c)) - 1)) {
            return UNKNOWN;
        }
        if (a == b || a == c || b == c) {
            return OUTSIDE;
        }
        int found = 0;
        for (Pair first : pairs(a, b, place)) {
            for (Pair second : pairs(b, c, place)) {
                found += first.v == second.u && pairs(a, c, place).contains(new Pair(first.u, second.v)) ? 1 : 0;
            }
        }
        return found;
    }

    public int crib(int a, int b, int what, int sheet, int lane, int i, int n) {
        fault = 0;
        if (!areLetters(a, b) || !in(sheet, 0, 3)) {
            return UNKNOWN;
        }
        if (a == b || !in(what, 0, 1) || !in(lane, 0, 2)) {
            return OUTSIDE;
        }
        fault = faultOfCells(sheet, lane, i, n);
        if (fault != 0) {
            return -10 - fault;
        }
        if (!in(n, 1, 6)) {
            return OUTSIDE;
        }
        List<Integer> words = cells(sheet, i, n);
        if (!hasCodes(words)) {
            return UNKNOWN;
        }
        List<Integer> meeting = new ArrayList<>();
        for (int place = 0; place < 8; place++) {
            if (meets(a, b, place, words)) {
                meeting.add(place);
            }
        }
        return what == 0 ? meeting.size() : meeting.isEmpty() ? NONE : meeting.get(0);
    }

    private boolean meets(int a, int b, int place, List<Integer> words) {
        for (int k = 0; k < words.size(); k++) {
            if (place + k >= places(a, b)) {
                return false;
            }
            int onThePage = rest(group(a, place + k) - codes[words.get(k)]);
            int second = rest(group(b, place + k) - onThePage);
            if (!Arrays.asList(codes).contains(second)) {
                return false;
            }
        }
        return true;
    }

    public int open(int day) {
        if (!in(day, 0, 99)) {
            return OUTSIDE;
        }
        int found = 0;
        for (Letter letter : letters) {
            boolean isOpen = false;
            for (Letter other : letters) {
                isOpen |= other != letter && other.page == letter.page && other.day <= day && letter.day <= day;
            }
            found += isOpen ? 1 : 0;
        }
        return found;
    }

    // ---- 5

    /** All MAKERS that MADE a PAGE, by a, then b. */
    private List<Pair> makers(int p) {
        List<Integer> groups = pages.get(p).groups;
        List<Pair> makers = new ArrayList<>();
        for (int a = 0; a < 100; a++) {
            for (int b = 0; b < 100; b++) {
                boolean made = true;
                for (int k = 1; k < groups.size(); k++) {
                    made &= rest(groups.get(k - 1) * a + b) == groups.get(k);
                }
                if (made) {
                    makers.add(new Pair(a, b));
                }
            }
        }
        return makers;
    }

    public int makers(int p, int what) {
        if (!in(p, 0, pages.size() - 1)) {
            return UNKNOWN;
        }
        if (!in(what, 0, 2)) {
            return OUTSIDE;
        }
        List<Pair> makers = makers(p);
        if (what == 0) {
            return makers.size();
        }
        return makers.isEmpty() ? NONE : what == 1 ? makers.get(0).u : makers.get(0).v;
    }

    public int like(int p, int q) {
        if (!in(p, 0, pages.size() - 1) || !in(q, 0, pages.size() - 1)) {
            return UNKNOWN;
        }
        List<Pair> makers = makers(p);
        return !makers.isEmpty() && new HashSet<>(makers(q)).containsAll(makers) ? 1 : 0;
    }

    public int next(int p) {
        if (!in(p, 0, pages.size() - 1)) {
            return UNKNOWN;
        }
        List<Integer> groups = pages.get(p).groups;
        Set<Integer> told = new HashSet<>();
        for (Pair maker : makers(p)) {
            told.add(rest(groups.get(groups.size() - 1) * maker.u + maker.v));
        }
        return told.size() == 1 ? told.iterator().next() : NONE;
    }

    // ---- 6

    private int faultOfCells(int sheet, int lane, int i, int n) {
        Row row = rows[sheet];
        if (row == null) {
            return 1;
        }
        if (row.lane != lane) {
            return 2;
        }
        if (n < 0) {
            return 4;
        }
        return i < 0 || (long) i + n > row.cells.length ? 3 : 0;
    }

    private List<Integer> cells(int sheet, int i, int n) {
        List<Integer> cells = new ArrayList<>();
        for (int k = i; k < i + n; k++) {
            cells.add(rows[sheet].cells[k]);
        }
        return cells;
    }

    public int sheet(int k, int lane, int n) {
        fault = 0;
        if (!in(k, 0, 3)) {
            return UNKNOWN;
        }
        if (!in(lane, 0, 2) || n > 60) {
            return OUTSIDE;
        }
        if (n < 0) {
            fault = 4;
            return -14;
        }
        rows[k] = new Row(lane, new int[n]);
        return 1;
    }

    public int lose(int k) {
        if (!in(k, 0, 3)) {
            return UNKNOWN;
        }
        int had = rows[k] == null ? 0 : 1;
        rows[k] = null;
        return had;
    }

    public int put(int k, int i, int v) {
        fault = 0;
        if (!in(k, 0, 3)) {
            return UNKNOWN;
        }
        fault = rows[k] == null ? 1 : !in(i, 0, rows[k].cells.length - 1) ? 3 : 0;
        if (fault != 0) {
            return -10 - fault;
        }
        rows[k].cells[i] = rows[k].lane == 0 ? (byte) v : rows[k].lane == 1 ? (short) v : v;
        return 1;
    }

    public long cell(int k, int i, int lane) {
        fault = 0;
        if (!in(k, 0, 3) || !in(lane, 0, 2)) {
            return LOST;
        }
        fault = faultOfCells(k, lane, i, 1);
        return fault == 0 ? rows[k].cells[i] : LOST;
    }

    public int copy(int k, int i, int other, int j, int n) {
        fault = 0;
        if (!in(k, 0, 3) || !in(other, 0, 3)) {
            return UNKNOWN;
        }
        if (rows[k] == null || rows[other] == null) {
            fault = 1;
        } else if (rows[k].lane != rows[other].lane) {
            fault = 2;
        } else if (i < 0 || j < 0 || n < 0 || (long) i + n > rows[k].cells.length
            || (long) j + n > rows[other].cells.length) {
            fault = 3;
        }
        if (fault != 0) {
            return -10 - fault;
        }
        int[] asTheyWere = rows[k].cells.clone();
        for (int c = 0; c < n; c++) {
            rows[other].cells[j + c] = asTheyWere[i + c];
        }
        return n;
    }

    private void leave(int... bodies) {
        for (int body : bodies) {
            trace = trace * 31 + body;
        }
    }

    public int tell(int p) {
        if (!in(p, 0, pages.size() - 1)) {
            return UNKNOWN;
        }
        Page page = pages.get(p);
        if (page.kind == 0) {
            leave(1);
            return page.usable();
        }
        if (page.kind == 1) {
            leave(2, 1);
            return page.usable() + 100;
        }
        leave(3, 2, 1, 1);
        return 2 * page.usable() + 100;
    }

    public int mark(int p) {
        if (!in(p, 0, pages.size() - 1)) {
            return UNKNOWN;
        }
        boolean isTorn = pages.get(p).kind == 2;
        leave(isTorn ? 5 : 4);
        return isTorn ? 88 : p;
    }

    public int as(int p, int kind) {
        fault = 0;
        if (!in(p, 0, pages.size() - 1)) {
            return UNKNOWN;
        }
        if (!in(kind, 0, 2)) {
            return OUTSIDE;
        }
        if (pages.get(p).kind < kind) {
            fault = 2;
            return -12;
        }
        return 1;
    }

    public int trace() {
        return trace;
    }

    public int fault() {
        return fault;
    }

    public int many(int what) {
        int words = (int) Arrays.stream(codes).filter(code -> code != null).count();
        return in(what, 0, 3) ? new int[] {words, pages.size(), letters.size(), bags.size()}[what] : OUTSIDE;
    }
}
