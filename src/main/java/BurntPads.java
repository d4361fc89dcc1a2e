/**
 * Letters hidden with pages of numbers, how they are read back, and what the other side gets out of
 * pages that were used again. DOC.md tells every call; words in capitals are the document's.
 *
 * <p>Nothing in here throws: every index, divisor and reference is looked at before it is used.
 */
public final class BurntPads {
    public static final int UNKNOWN = -1, OUTSIDE = -2, STATE = -3, FULL = -4, NONE = -9;
    public static final long LOST = Long.MIN_VALUE;

    private static final int NO_FAULT = 0, NULL = 1, CAST = 2, INDEX = 3, SIZE = 4;
    private static final int GROUPS = 100;
    private static final int WORDS = 30;
    private static final int MOST_WEIGHT = 99;
    private static final int KINDS = 3;
    private static final int MOST_PAGES = 24;
    private static final int MOST_LETTERS = 20;
    private static final int MOST_OF_PAGE = 12;
    private static final int POSTS = 6;
    private static final int DAYS = 100;
    private static final int MOST_NEED = 9;
    private static final int MOST_BAGS = 20;
    private static final int MOST_OF_BAG = 99;
    private static final int MOST_IN_PRESS = 9999;
    private static final int SHEETS = 4;
    private static final int LANES = 3;
    private static final int MOST_CELLS = 60;
    private static final int MOST_OF_CRIB = 6;
    private static final int FIRST_GROUP = 10;

    private final Book book = new Book();
    private final Posts posts = new Posts();
    private final Trace bodies = new Trace();
    private final Page[] pages = new Page[MOST_PAGES];
    private final Letter[] letters = new Letter[MOST_LETTERS];
    private final Sheet[] sheets = new Sheet[SHEETS];
    private Drill theDrill = new Drill();
    private int pageCount;
    private int letterCount;
    private int latestFault;

    public BurntPads() {
        for (int k = 0; k < SHEETS; k++) {
            sheets[k] = new Sheet();
        }
    }

    // ---- 1 book, drill

    public int code(int word, int group) {
        if (!isBelow(word, WORDS)) {
            return UNKNOWN;
        }
        if (group != -1 && !isBelow(group, GROUPS)) {
            return OUTSIDE;
        }
        int owner = book.wordOf(group);
        if (owner != NONE && owner != word) {
            return STATE;
        }
        int before = book.codeOf(word);
        book.giveCode(word, group);
        return before;
    }

    public int weight(int word, int n) {
        if (!isBelow(word, WORDS)) {
            return UNKNOWN;
        }
        if (n < 0 || n > MOST_WEIGHT) {
            return OUTSIDE;
        }
        int before = book.weightOf(word);
        book.giveWeight(word, n);
        return before;
    }

    public int drill(int sheet, int lane, int i, int n) {
        latestFault = NO_FAULT;
        Sheet from = sheetAt(sheet);
        if (from == null) {
            return UNKNOWN;
        }
        if (!isBelow(lane, LANES)) {
            return OUTSIDE;
        }
        int came = from.faultOfCells(lane, i, n);
        if (came != NO_FAULT) {
            return comeTo(came);
        }
        DrillReader reader = new DrillReader(from, i, n);
        int items = reader.readText();
        if (items >= 0) {
            theDrill = reader.told();
        }
        return items;
    }

    public int ofDrill(int what) {
        switch (what) {
            case 0:
                return theDrill.beginning();
            case 1:
                return theDrill.multiple();
            case 2:
                return asNumber(theDrill.hasCheck());
            case 3:
                return asNumber(theDrill.allowsReuse());
            default:
                return OUTSIDE;
        }
    }

    // ---- 2 pages, letters

    public int page(int kind, int post, int sheet, int lane, int i, int n) {
        latestFault = NO_FAULT;
        Sheet from = sheetAt(sheet);
        if (from == null || !isBelow(post, POSTS)) {
            return UNKNOWN;
        }
        if (!isBelow(kind, KINDS) || !isBelow(lane, LANES)) {
            return OUTSIDE;
        }
        int came = from.faultOfCells(lane, i, n);
        if (came != NO_FAULT) {
            return comeTo(came);
        }
        if (n < 1 || n > MOST_OF_PAGE || !from.hasOnlyGroups(i, n)) {
            return OUTSIDE;
        }
        if (!isBelow(pageCount, MOST_PAGES)) {
            return FULL;
        }
        int number = pageCount;
        pages[number] = newPage(kind, number, post, from.groups(i, n));
        pageCount++;
        return number;
    }

    public int ofPage(int p, int what) {
        Page page = pageAt(p);
        if (page == null) {
            return UNKNOWN;
        }
        switch (what) {
            case 0:
                return page.kind();
            case 1:
                return page.post;
            case 2:
                return page.size();
            case 3:
                return page.usable();
            case 4:
                return asNumber(page.isBurnt());
            case 5:
                return page.letters;
            default:
                return isBelow(what - FIRST_GROUP, page.size()) ? page.groupAt(what - FIRST_GROUP) : OUTSIDE;
        }
    }

    public int letter(int p, int day, int sheet, int lane, int i, int n) {
        latestFault = NO_FAULT;
        Page page = pageAt(p);
        Sheet from = sheetAt(sheet);
        if (page == null || from == null) {
            return UNKNOWN;
        }
        if (!isBelow(day, DAYS) || !isBelow(lane, LANES)) {
            return OUTSIDE;
        }
        int came = from.faultOfCells(lane, i, n);
        if (came != NO_FAULT) {
            return comeTo(came);
        }
        if (!book.hasCodesOf(from, i, n)) {
            return UNKNOWN;
        }
        int size = theDrill.sizeLaid(n);
        if (page.isBurnt() && !theDrill.allowsReuse() || size > page.usable() || size < 1) {
            return STATE;
        }
        if (!isBelow(letterCount, MOST_LETTERS)) {
            return FULL;
        }
        int[] groups = new int[size];
        theDrill.lay(groups, book, from, i, n);
        page.hide(groups);
        int number = letterCount;
        letters[number] = new Letter(p, day, groups);
        letterCount++;
        return number;
    }

    public int ofLetter(int x, int what) {
        Letter letter = letterAt(x);
        if (letter == null) {
            return UNKNOWN;
        }
        switch (what) {
            case 0:
                return letter.page;
            case 1:
                return letter.day;
            case 2:
                return letter.size();
            default:
                return isBelow(what - FIRST_GROUP, letter.size()) ? letter.groupAt(what - FIRST_GROUP) : OUTSIDE;
        }
    }

    public int read(int x, int p, int k) {
        Letter letter = letterAt(x);
        Page page = pageAt(p);
        if (letter == null || page == null || k < -1 || k >= MOST_OF_PAGE) {
            return UNKNOWN;
        }
        if (isWrong(letter, page)) {
            return STATE;
        }
        int first = theDrill.beginning() == NONE ? 0 : 1;
        int end = theDrill.hasCheck() ? letter.size() - 1 : letter.size();
        int found = 0;
        for (int place = first; place < end; place++) {
            int word = book.wordOf(page.uncovered(letter, place));
            if (word != NONE) {
                if (found == k) {
                    return word;
                }
                found++;
            }
        }
        return k == -1 ? found : NONE;
    }

    // ---- 3 posts

    public int need(int post, int n) {
        if (!isBelow(post, POSTS)) {
            return UNKNOWN;
        }
        if (n < 0 || n > MOST_NEED) {
            return OUTSIDE;
        }
        return posts.changeNeed(post, n);
    }

    public int bag(int post, int day, int n) {
        if (!isBelow(post, POSTS)) {
            return UNKNOWN;
        }
        if (!isBelow(day, DAYS) || n < 1 || n > MOST_OF_BAG) {
            return OUTSIDE;
        }
        if (posts.bagCount() >= MOST_BAGS) {
            return FULL;
        }
        posts.addBag(post, day, n);
        return posts.bagCount();
    }

    public int out(int post, int n) {
        if (!isBelow(post, POSTS)) {
            return UNKNOWN;
        }
        if (n < 0 || n > MOST_IN_PRESS) {
            return OUTSIDE;
        }
        return posts.dayOut(post, n);
    }

    public int last(int n, int post) {
        if (n < 0 || n > MOST_IN_PRESS) {
            return OUTSIDE;
        }
        if (post != -1 && !isBelow(post, POSTS)) {
            return UNKNOWN;
        }
        int lastDay = posts.part(n);
        return post == -1 ? lastDay : posts.partOf(post);
    }

    // ---- 4 the other side

    public int beside(int a, int b, int what) {
        Letter first = letterAt(a);
        Letter second = letterAt(b);
        if (first == null || second == null) {
            return UNKNOWN;
        }
        if (a == b) {
            return OUTSIDE;
        }
        switch (what) {
            case 0:
                return OtherSide.places(first, second);
            case 1:
                return OtherSide.fitting(book, first, second);
            case 2:
                return asNumber(first.page == second.page);
            case 3:
                return OtherSide.sure(book, first, second);
            default:
                return OUTSIDE;
        }
    }

    public int spread() {
        return book.spreadOfCodes();
    }

    public long chance(int a, int b, int which) {
        Letter first = letterAt(a);
        Letter second = letterAt(b);
        if (first == null || second == null || !isBelow(which, 2) || a == b) {
            return LOST;
        }
        return OtherSide.shareInLeastTerms(book, first, second, which);
    }

    public int best(int what) {
        if (!isBelow(what, 2)) {
            return OUTSIDE;
        }
        long least = 0;
        int bestFirst = NONE;
        int bestSecond = NONE;
        int spread = book.spreadOfCodes();
        for (int a = 0; a < letterCount; a++) {
            for (int b = a + 1; b < letterCount; b++) {
                long share = OtherSide.shareOf(book, letterAt(a), letterAt(b), spread);
                if (bestFirst == NONE || share < least) {
                    least = share;
                    bestFirst = a;
                    bestSecond = b;
                }
            }
        }
        return what == 0 ? bestFirst : bestSecond;
    }

    public int strip(int a, int b, int place, int what) {
        Letter first = letterAt(a);
        Letter second = letterAt(b);
        if (first == null || second == null || !isBelow(place, OtherSide.places(first, second))) {
            return UNKNOWN;
        }
        if (!isBelow(what, 3) || a == b) {
            return OUTSIDE;
        }
        int apart = OtherSide.apart(first, second, place);
        if (what == 0) {
            return book.pairsApart(apart);
        }
        int u = book.likeliest(apart);
        return what == 1 || u == NONE ? u : book.partner(u, apart);
    }

    public int with(int a, int b, int c, int place) {
        Letter first = letterAt(a);
        Letter second = letterAt(b);
        Letter third = letterAt(c);
        if (first == null || second == null || third == null) {
            return UNKNOWN;
        }
        int places = Math.min(OtherSide.places(first, second), OtherSide.places(second, third));
        if (!isBelow(place, places)) {
            return UNKNOWN;
        }
        if (a == b || a == c || b == c) {
            return OUTSIDE;
        }
        return book.triplesApart(OtherSide.apart(first, second, place), OtherSide.apart(first, third, place));
    }

    public int crib(int a, int b, int what, int sheet, int lane, int i, int n) {
        latestFault = NO_FAULT;
        Letter first = letterAt(a);
        Letter second = letterAt(b);
        Sheet from = sheetAt(sheet);
        if (first == null || second == null || from == null) {
            return UNKNOWN;
        }
        if (a == b || !isBelow(what, 2) || !isBelow(lane, LANES)) {
            return OUTSIDE;
        }
        int came = from.faultOfCells(lane, i, n);
        if (came != NO_FAULT) {
            return comeTo(came);
        }
        if (n < 1 || n > MOST_OF_CRIB) {
            return OUTSIDE;
        }
        if (!book.hasCodesOf(from, i, n)) {
            return UNKNOWN;
        }
        int meeting = 0;
        int places = OtherSide.places(first, second);
        for (int place = 0; place + n <= places; place++) {
            if (OtherSide.meets(book, first, second, place, from, i, n)) {
                if (what == 1) {
                    return place;
                }
                meeting++;
            }
        }
        return what == 0 ? meeting : NONE;
    }

    public int open(int day) {
        if (!isBelow(day, DAYS)) {
            return OUTSIDE;
        }
        int found = 0;
        for (int x = 0; x < letterCount; x++) {
            Letter letter = letterAt(x);
            if (letter != null && letter.day <= day && lettersUpTo(day, letter.page) > 1) {
                found++;
            }
        }
        return found;
    }

    // ---- 5 makers

    public int makers(int p, int what) {
        Page page = pageAt(p);
        if (page == null) {
            return UNKNOWN;
        }
        switch (what) {
            case 0:
                return page.countMakers();
            case 1:
                return page.leastFactor();
            case 2:
                return page.leastAddend();
            default:
                return OUTSIDE;
        }
    }

    public int like(int p, int q) {
        Page page = pageAt(p);
        Page other = pageAt(q);
        if (page == null || other == null) {
            return UNKNOWN;
        }
        return asNumber(page.isLike(other));
    }

    public int next(int p) {
        Page page = pageAt(p);
        return page == null ? UNKNOWN : page.groupBehind();
    }

    // ---- 6 sheets, parts

    public int sheet(int k, int lane, int n) {
        latestFault = NO_FAULT;
        Sheet sheet = sheetAt(k);
        if (sheet == null) {
            return UNKNOWN;
        }
        if (!isBelow(lane, LANES) || n > MOST_CELLS) {
            return OUTSIDE;
        }
        if (n < 0) {
            return comeTo(SIZE);
        }
        sheet.renew(lane, n);
        return 1;
    }

    public int lose(int k) {
        Sheet sheet = sheetAt(k);
        if (sheet == null) {
            return UNKNOWN;
        }
        boolean hadNothing = sheet.isNothing();
        sheet.empty();
        return asNumber(!hadNothing);
    }

    public int put(int k, int i, int v) {
        latestFault = NO_FAULT;
        Sheet sheet = sheetAt(k);
        if (sheet == null) {
            return UNKNOWN;
        }
        if (sheet.isNothing()) {
            return comeTo(NULL);
        }
        if (!sheet.hasCell(i)) {
            return comeTo(INDEX);
        }
        sheet.change(i, v);
        return 1;
    }

    public long cell(int k, int i, int lane) {
        latestFault = NO_FAULT;
        Sheet sheet = sheetAt(k);
        if (sheet == null || !isBelow(lane, LANES)) {
            return LOST;
        }
        int came = sheet.faultOfCell(lane, i);
        if (came != NO_FAULT) {
            latestFault = came;
            return LOST;
        }
        return sheet.at(i);
    }

    public int copy(int k, int i, int other, int j, int n) {
        latestFault = NO_FAULT;
        Sheet source = sheetAt(k);
        Sheet target = sheetAt(other);
        if (source == null || target == null) {
            return UNKNOWN;
        }
        if (source.isNothing() || target.isNothing()) {
            return comeTo(NULL);
        }
        if (!source.isOfLaneOf(target)) {
            return comeTo(CAST);
        }
        if (!source.hasCells(i, n) || !target.hasCells(j, n)) {
            return comeTo(INDEX);
        }
        target.take(j, source, i, n);
        return n;
    }

    public int tell(int p) {
        Page page = pageAt(p);
        return page == null ? UNKNOWN : page.telling(bodies);
    }

    public int mark(int p) {
        Page page = pageAt(p);
        return page == null ? UNKNOWN : page.marking(bodies);
    }

    public int as(int p, int kind) {
        latestFault = NO_FAULT;
        Page page = pageAt(p);
        if (page == null) {
            return UNKNOWN;
        }
        if (!isBelow(kind, KINDS)) {
            return OUTSIDE;
        }
        return page.kind() < kind ? comeTo(CAST) : 1;
    }

    public int trace() {
        return bodies.left;
    }

    public int fault() {
        return latestFault;
    }

    public int many(int what) {
        switch (what) {
            case 0:
                return book.codeCount();
            case 1:
                return pageCount;
            case 2:
                return letterCount;
            case 3:
                return posts.bagCount();
            default:
                return OUTSIDE;
        }
    }

    // ---- what several calls use

    private static boolean isBelow(int n, int bound) {
        return n >= 0 && n < bound;
    }

    private static int asNumber(boolean answer) {
        return answer ? 1 : 0;
    }

    private static Page newPage(int kind, int number, int post, int[] groups) {
        switch (kind) {
            case 1:
                return new ShortPage(number, post, groups);
            case 2:
                return new TornPage(number, post, groups);
            default:
                return new Page(number, post, groups);
        }
    }

    /** Null, where there is no such SHEET; a SHEET that has nothing is one. */
    private Sheet sheetAt(int k) {
        return isBelow(k, SHEETS) ? sheets[k] : null;
    }

    private Page pageAt(int p) {
        return isBelow(p, MOST_PAGES) ? pages[p] : null;
    }

    private Letter letterAt(int x) {
        return isBelow(x, MOST_LETTERS) ? letters[x] : null;
    }

    private int comeTo(int fault) {
        latestFault = fault;
        return -10 - fault;
    }

    /** By THE DRILL as it is now, not as it was when the LETTER was laid. */
    private boolean isWrong(Letter letter, Page page) {
        int size = letter.size();
        if (size > page.usable()) {
            return true;
        }
        int begin = theDrill.beginning();
        if (begin != NONE && page.uncovered(letter, 0) != begin) {
            return true;
        }
        if (!theDrill.hasCheck()) {
            return false;
        }
        int sum = 0;
        for (int place = 0; place < size - 1; place++) {
            sum += Drill.inCheck(page.uncovered(letter, place), place);
        }
        return page.uncovered(letter, size - 1) != sum % GROUPS;
    }

    private int lettersUpTo(int day, int page) {
        int found = 0;
        for (int x = 0; x < letterCount; x++) {
            Letter letter = letterAt(x);
            if (letter != null && letter.day <= day && letter.page == page) {
                found++;
            }
        }
        return found;
    }

    /** THE BOOK; how far its CODES lie apart is kept with it, since most calls of the other side ask for that. */
    private static final class Book {
        private final int[] codes = new int[WORDS];
        private final int[] weights = new int[WORDS];
        private final int[] words = new int[GROUPS];
        private final int[] pairs = new int[GROUPS];
        private int count;

        Book() {
            for (int word = 0; word < WORDS; word++) {
                codes[word] = NONE;
            }
            for (int group = 0; group < GROUPS; group++) {
                words[group] = NONE;
            }
        }

        int codeOf(int word) {
            return isBelow(word, WORDS) ? codes[word] : NONE;
        }

        int wordOf(int group) {
            return isBelow(group, GROUPS) ? words[group] : NONE;
        }

        int weightOf(int word) {
            return isBelow(word, WORDS) ? weights[word] : 0;
        }

        int codeCount() {
            return count;
        }

        /** Any group that is none takes the CODE away. */
        void giveCode(int word, int group) {
            if (!isBelow(word, WORDS)) {
                return;
            }
            int before = codes[word];
            if (isBelow(before, GROUPS)) {
                codes[word] = NONE;
                words[before] = NONE;
                count--;
                changePairs(before, -1);
            }
            if (isBelow(group, GROUPS)) {
                changePairs(group, 1);
                codes[word] = group;
                words[group] = word;
                count++;
            }
        }

        void giveWeight(int word, int weight) {
            if (isBelow(word, WORDS)) {
                weights[word] = weight;
            }
        }

        /** The pairs of a CODE that is not in THE BOOK (not yet, no more) with itself and all that are. */
        private void changePairs(int code, int by) {
            pairs[0] += by;
            for (int word = 0; word < WORDS; word++) {
                if (codes[word] != NONE) {
                    pairs[Math.floorMod(code - codes[word], GROUPS)] += by;
                    pairs[Math.floorMod(codes[word] - code, GROUPS)] += by;
                }
            }
        }

        boolean hasCodesOf(Sheet sheet, int i, int n) {
            for (int k = 0; k < n; k++) {
                if (codeOf(sheet.at(i + k)) == NONE) {
                    return false;
                }
            }
            return true;
        }

        int pairsApart(int apart) {
            return isBelow(apart, GROUPS) ? pairs[apart] : 0;
        }

        int spreadOfCodes() {
            int spread = 0;
            for (int apart = 0; apart < GROUPS; apart++) {
                if (pairs[apart] > 0) {
                    spread++;
                }
            }
            return spread;
        }

        /** The WORD whose CODE lies so far below that of u; there is one at most, since no two CODES are the same. */
        int partner(int u, int apart) {
            int code = codeOf(u);
            return code == NONE ? NONE : wordOf(Math.floorMod(code - apart, GROUPS));
        }

        int likeliest(int apart) {
            int likeliest = NONE;
            int greatest = 0;
            for (int u = 0; u < WORDS; u++) {
                int v = partner(u, apart);
                int product = v == NONE ? 0 : (weightOf(u) + 1) * (weightOf(v) + 1);
                if (product > greatest) {
                    greatest = product;
                    likeliest = u;
                }
            }
            return likeliest;
        }

        int triplesApart(int apartFromSecond, int apartFromThird) {
            int found = 0;
            for (int u = 0; u < WORDS; u++) {
                if (partner(u, apartFromSecond) != NONE && partner(u, apartFromThird) != NONE) {
                    found++;
                }
            }
            return found;
        }
    }

    /** What a TEXT tells, item by item: its number (1 for c), or NONE. */
    private static final class Drill {
        private static final int BEGIN = 0, MULTIPLE = 1, CHECK = 2, REUSE = 3, ITEMS = 4;
        private static final int[] LETTERS = {98, 108, 99, 114};
        private static final int[] LEAST = {0, 1, 1, 0};
        private static final int[] GREATEST = {99, 6, 1, 1};

        private final int[] told = {NONE, NONE, NONE, NONE};

        static int itemOf(int letter) {
            for (int item = 0; item < ITEMS; item++) {
                if (LETTERS[item] == letter) {
                    return item;
                }
            }
            return NONE;
        }

        static boolean hasNumber(int item) {
            return item != CHECK;
        }

        boolean isTold(int item) {
            return isBelow(item, ITEMS) && told[item] != NONE;
        }

        /** False, and nothing is told, where the number is not as the item wants it. */
        boolean takes(int item, int number) {
            if (!isBelow(item, ITEMS) || number < LEAST[item] || number > GREATEST[item]) {
                return false;
            }
            told[item] = number;
            return true;
        }

        int beginning() {
            return told[BEGIN];
        }

        int multiple() {
            return told[MULTIPLE];
        }

        boolean hasCheck() {
            return isTold(CHECK);
        }

        boolean allowsReuse() {
            return told[REUSE] == 1;
        }

        int sizeLaid(int words) {
            int size = sizeAheadOfCheck(words);
            return hasCheck() ? size + 1 : size;
        }

        private int sizeAheadOfCheck(int words) {
            int size = isTold(BEGIN) ? words + 1 : words;
            int multiple = multiple();
            int beyond = multiple > 0 ? size % multiple : 0;
            return beyond == 0 ? size : size + multiple - beyond;
        }

        /** Into a new row of just the size that is LAID: what lies between WORDS and THE CHECK stays 0. */
        void lay(int[] laid, Book book, Sheet from, int i, int n) {
            int place = 0;
            if (isTold(BEGIN) && place < laid.length) {
                laid[place] = beginning();
                place++;
            }
            for (int k = 0; k < n && place < laid.length; k++) {
                laid[place] = book.codeOf(from.at(i + k));
                place++;
            }
            if (hasCheck() && laid.length > 0) {
                laid[laid.length - 1] = checkOfAllButLast(laid);
            }
        }

        private static int checkOfAllButLast(int[] row) {
            int sum = 0;
            for (int place = 0; place < row.length - 1; place++) {
                sum += inCheck(row[place], place);
            }
            return sum % GROUPS;
        }

        /** THE CHECK counts places from 1 on and takes one more, we count them from 0 on. */
        static int inCheck(int group, int place) {
            return group * (place + 2);
        }
    }

    /** Reads a TEXT from the first code on; where it can't go on, its place is the FIRST FAULT. */
    private static final class DrillReader {
        private static final int BETWEEN = 59, DIGIT_ZERO = 48, DIGIT_NINE = 57, NO_CODE = -1;

        private final Sheet sheet;
        private final int from;
        private final int count;
        private final Drill draft = new Drill();
        private int place;

        DrillReader(Sheet sheet, int from, int count) {
            this.sheet = sheet;
            this.from = from;
            this.count = count;
        }

        Drill told() {
            return draft;
        }

        /** How many items, or -100 less the FIRST FAULT. */
        int readText() {
            if (count == 0) {
                return 0;
            }
            for (int items = 1; items <= Drill.ITEMS; items++) {
                if (!readItem()) {
                    return -100 - place;
                }
                if (place == count) {
                    return items;
                }
                if (here() != BETWEEN || items == Drill.ITEMS) {
                    return -100 - place;
                }
                place++;
            }
            return -100 - place;
        }

        /** No item and no number goes on with it, so that a TEXT that ends too soon has its fault at its end. */
        private int here() {
            return place < count ? sheet.at(from + place) : NO_CODE;
        }

        private boolean readItem() {
            int item = Drill.itemOf(here());
            if (item == NONE || draft.isTold(item)) {
                return false;
            }
            place++;
            return Drill.hasNumber(item) ? readNumber(item) : draft.takes(item, 1);
        }

        private boolean readNumber(int item) {
            int firstDigit = place;
            if (!isDigitHere()) {
                return false;
            }
            int number = readDigit();
            if (isDigitHere()) {
                number = number * 10 + readDigit();
            }
            if (draft.takes(item, number)) {
                return true;
            }
            place = firstDigit;
            return false;
        }

        private boolean isDigitHere() {
            int code = here();
            return code >= DIGIT_ZERO && code <= DIGIT_NINE;
        }

        private int readDigit() {
            int digit = here() - DIGIT_ZERO;
            place++;
            return digit;
        }
    }

    /** The numbers that bodies leave as they begin. */
    private static final class Trace {
        int left;

        void leave(int body) {
            left = 31 * left + body;
        }
    }

    /** A PAGE of any kind; what those of kind 1 and 2 have of their own stands in the two classes below it. */
    private static class Page {
        private static final int ANY = -1;

        final int number;
        final int post;
        private final int[] groups;
        int letters;

        Page(int number, int post, int[] groups) {
            this.number = number;
            this.post = post;
            this.groups = groups;
        }

        int kind() {
            return 0;
        }

        int usable() {
            return groups.length;
        }

        int telling(Trace trace) {
            return tellingOfPage(trace);
        }

        /** Apart from telling, since a TORN one wants it with SHORT's left out. */
        final int tellingOfPage(Trace trace) {
            trace.leave(1);
            return usable();
        }

        int marking(Trace trace) {
            trace.leave(4);
            return number;
        }

        final int size() {
            return groups.length;
        }

        final int groupAt(int k) {
            return isBelow(k, groups.length) ? groups[k] : 0;
        }

        final boolean isBurnt() {
            return letters > 0;
        }

        /** Turns what was LAID into what is sent, and burns the PAGE. */
        final void hide(int[] laid) {
            for (int k = 0; k < laid.length; k++) {
                laid[k] = (laid[k] + groupAt(k)) % GROUPS;
            }
            letters++;
        }

        final int uncovered(Letter letter, int place) {
            return Math.floorMod(letter.groupAt(place) - groupAt(place), GROUPS);
        }

        /** The b with which a MADE this PAGE: two GROUPS leave one at most. ANY: all of them did; NONE: none did. */
        private int addendOf(int a) {
            if (groups.length < 2) {
                return ANY;
            }
            int b = Math.floorMod(groups[1] - a * groups[0], GROUPS);
            for (int k = 2; k < groups.length; k++) {
                if ((a * groups[k - 1] + b) % GROUPS != groups[k]) {
                    return NONE;
                }
            }
            return b;
        }

        final int countMakers() {
            int found = 0;
            for (int a = 0; a < GROUPS; a++) {
                int b = addendOf(a);
                if (b == ANY) {
                    found += GROUPS;
                } else if (b != NONE) {
                    found++;
                }
            }
            return found;
        }

        final int leastFactor() {
            for (int a = 0; a < GROUPS; a++) {
                if (addendOf(a) != NONE) {
                    return a;
                }
            }
            return NONE;
        }

        final int leastAddend() {
            int a = leastFactor();
            if (a == NONE) {
                return NONE;
            }
            int b = addendOf(a);
            return b == ANY ? 0 : b;
        }

        final boolean isLike(Page other) {
            boolean isMade = false;
            for (int a = 0; a < GROUPS; a++) {
                int b = addendOf(a);
                if (b != NONE) {
                    isMade = true;
                    int otherB = other.addendOf(a);
                    if (otherB != ANY && otherB != b) {
                        return false;
                    }
                }
            }
            return isMade;
        }

        final int groupBehind() {
            int behind = NONE;
            for (int a = 0; a < GROUPS; a++) {
                int b = addendOf(a);
                if (b == ANY) {
                    return NONE;
                }
                if (b != NONE) {
                    int group = (a * groupAt(groups.length - 1) + b) % GROUPS;
                    if (behind != NONE && behind != group) {
                        return NONE;
                    }
                    behind = group;
                }
            }
            return behind;
        }
    }

    private static class ShortPage extends Page {
        ShortPage(int number, int post, int[] groups) {
            super(number, post, groups);
        }

        int kind() {
            return 1;
        }

        int usable() {
            return Math.max(0, size() - 1);
        }

        int telling(Trace trace) {
            trace.leave(2);
            return super.telling(trace) + 100;
        }
    }

    private static final class TornPage extends ShortPage {
        TornPage(int number, int post, int[] groups) {
            super(number, post, groups);
        }

        int kind() {
            return 2;
        }

        int usable() {
            return Math.max(0, size() - 2);
        }

        int telling(Trace trace) {
            trace.leave(3);
            int ofShort = super.telling(trace);
            return ofShort + tellingOfPage(trace);
        }

        int marking(Trace trace) {
            trace.leave(5);
            return 88;
        }
    }

    /** A LETTER as it is sent. */
    private static final class Letter {
        final int page;
        final int day;
        private final int[] groups;

        Letter(int page, int day, int[] groups) {
            this.page = page;
            this.day = day;
            this.groups = groups;
        }

        int size() {
            return groups.length;
        }

        int groupAt(int k) {
            return isBelow(k, groups.length) ? groups[k] : 0;
        }
    }

    /** What POSTS NEED and what BAGS bring them. */
    private static final class Posts {
        private final int[] needs = new int[POSTS];
        private final int[][] brought = new int[POSTS][DAYS];
        private final int[] parts = new int[POSTS];
        private final int[] wanted = new int[POSTS];
        private final int[] arrived = new int[POSTS];
        private int bags;

        int bagCount() {
            return bags;
        }

        int changeNeed(int post, int n) {
            if (!isBelow(post, POSTS)) {
                return 0;
            }
            int before = needs[post];
            needs[post] = n;
            return before;
        }

        void addBag(int post, int day, int n) {
            if (isBelow(post, POSTS) && isBelow(day, DAYS)) {
                brought[post][day] += n;
                bags++;
            }
        }

        int dayOut(int post, int atFirst) {
            if (!isBelow(post, POSTS)) {
                return NONE;
            }
            int stock = atFirst;
            for (int day = 0; day < DAYS; day++) {
                stock += brought[post][day];
                if (stock < needs[post]) {
                    return day;
                }
                stock -= needs[post];
            }
            return NONE;
        }

        /** LAST of n PAGES; what each POST gets for it is then told by partOf. */
        int part(int n) {
            for (int post = 0; post < POSTS; post++) {
                parts[post] = 0;
                arrived[post] = 0;
            }
            for (int day = 0; day < DAYS; day++) {
                if (wantedThrough(day) > n) {
                    return day;
                }
                for (int post = 0; post < POSTS; post++) {
                    parts[post] = wanted[post];
                }
            }
            return DAYS;
        }

        /** How many PAGES all POSTS want at first to come through a DAY, when parts brings them through those ahead. */
        private int wantedThrough(int day) {
            int sum = 0;
            for (int post = 0; post < POSTS; post++) {
                arrived[post] += brought[post][day];
                int lacking = needs[post] * (day + 1) - arrived[post];
                wanted[post] = Math.max(parts[post], lacking);
                sum += wanted[post];
            }
            return sum;
        }

        int partOf(int post) {
            return isBelow(post, POSTS) ? parts[post] : 0;
        }
    }

    /** Two LETTERS laid beside one another. */
    private static final class OtherSide {
        private static final int MOST_PLACES = 8;
        private static final long ALL_ROWS = 10_000_000_000_000_000L;

        static int places(Letter first, Letter second) {
            return Math.min(MOST_PLACES, Math.min(first.size(), second.size()));
        }

        static int apart(Letter first, Letter second, int place) {
            return Math.floorMod(first.groupAt(place) - second.groupAt(place), GROUPS);
        }

        static int fitting(Book book, Letter first, Letter second) {
            int places = places(first, second);
            int found = 0;
            for (int place = 0; place < places; place++) {
                if (book.pairsApart(apart(first, second, place)) > 0) {
                    found++;
                }
            }
            return found;
        }

        static int sure(Book book, Letter first, Letter second) {
            int places = places(first, second);
            int found = 0;
            for (int place = 0; place < places; place++) {
                if (book.pairsApart(apart(first, second, place)) == 1) {
                    found++;
                }
            }
            return found;
        }

        /** CHANCE as so many of ALL_ROWS (of 8 numbers), so that those of unlike lengths can be compared. */
        static long shareOf(Book book, Letter first, Letter second, int spread) {
            if (first == null || second == null) {
                return ALL_ROWS;
            }
            int places = places(first, second);
            long rows = rowsThatFit(places, fitting(book, first, second), spread);
            return rows * power(GROUPS, MOST_PLACES - places);
        }

        static long shareInLeastTerms(Book book, Letter first, Letter second, int which) {
            long share = shareOf(book, first, second, book.spreadOfCodes());
            long divisor = greatestDivisor(share, ALL_ROWS);
            if (divisor == 0) {
                return LOST;
            }
            return which == 0 ? share / divisor : ALL_ROWS / divisor;
        }

        private static long rowsThatFit(int places, int fitting, int spread) {
            long rows = 0;
            long choices = 1;
            for (int fit = 0; fit <= places; fit++) {
                if (fit >= fitting) {
                    rows += choices * power(spread, fit) * power(GROUPS - spread, places - fit);
                }
                choices = choices * (places - fit) / (fit + 1);
            }
            return rows;
        }

        private static long power(int base, int exponent) {
            long power = 1;
            for (int k = 0; k < exponent; k++) {
                power *= base;
            }
            return power;
        }

        /** By Euclid, who needs fewer than 100 steps for any two longs. */
        private static long greatestDivisor(long m, long n) {
            long greater = m;
            long lesser = n;
            for (int step = 0; step < 100 && lesser != 0; step++) {
                long rest = greater % lesser;
                greater = lesser;
                lesser = rest;
            }
            return greater;
        }

        static boolean meets(Book book, Letter first, Letter second, int place, Sheet from, int i, int n) {
            for (int k = 0; k < n; k++) {
                int word = from.at(i + k);
                if (book.partner(word, apart(first, second, place + k)) == NONE) {
                    return false;
                }
            }
            return true;
        }
    }

    /** One row for all LANES; it is kept when the SHEET has nothing, and used again. */
    private static final class Sheet {
        private static final int NO_LANE = -1;

        private final int[] cells = new int[MOST_CELLS];
        private int lane = NO_LANE;
        private int size;

        boolean isNothing() {
            return lane == NO_LANE;
        }

        void empty() {
            lane = NO_LANE;
            size = 0;
        }

        void renew(int newLane, int newSize) {
            lane = newLane;
            size = Math.max(0, Math.min(newSize, MOST_CELLS));
            for (int i = 0; i < MOST_CELLS; i++) {
                cells[i] = 0;
            }
        }

        boolean isOfLaneOf(Sheet other) {
            return lane == other.lane;
        }

        boolean hasCell(int i) {
            return isBelow(i, size);
        }

        /** Where n is 0, i may lie just behind the last cell, but no further. */
        boolean hasCells(int i, int n) {
            return n >= 0 && n <= size && i >= 0 && i <= size - n;
        }

        private int faultOfLane(int asLane) {
            if (isNothing()) {
                return NULL;
            }
            return lane == asLane ? NO_FAULT : CAST;
        }

        int faultOfCells(int asLane, int i, int n) {
            int came = faultOfLane(asLane);
            if (came != NO_FAULT) {
                return came;
            }
            if (n < 0) {
                return SIZE;
            }
            return hasCells(i, n) ? NO_FAULT : INDEX;
        }

        int faultOfCell(int asLane, int i) {
            int came = faultOfLane(asLane);
            if (came != NO_FAULT) {
                return came;
            }
            return hasCell(i) ? NO_FAULT : INDEX;
        }

        int at(int i) {
            return hasCell(i) && isBelow(i, MOST_CELLS) ? cells[i] : 0;
        }

        void change(int i, int v) {
            if (hasCell(i) && isBelow(i, MOST_CELLS)) {
                cells[i] = cutToLane(v);
            }
        }

        private int cutToLane(int v) {
            switch (lane) {
                case 0:
                    return (byte) v;
                case 1:
                    return (short) v;
                default:
                    return v;
            }
        }

        /** The cells may overlap, as those of one SHEET can: they come as they were. */
        void take(int j, Sheet source, int i, int n) {
            if (hasCells(j, n) && source.hasCells(i, n)) {
                System.arraycopy(source.cells, i, cells, j, n);
            }
        }

        boolean hasOnlyGroups(int i, int n) {
            for (int k = 0; k < n; k++) {
                if (!isBelow(at(i + k), GROUPS)) {
                    return false;
                }
            }
            return true;
        }

        int[] groups(int i, int n) {
            int[] groups = new int[Math.max(0, Math.min(n, MOST_CELLS))];
            for (int k = 0; k < groups.length; k++) {
                groups[k] = at(i + k);
            }
            return groups;
        }
    }
}
