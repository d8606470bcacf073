import java.util.Arrays;

/**
 * Equations between rows of letters and unknown words, and what words and patterns tell: the class of the
 * document "TwoSides". An item is a letter (0 .. 2) or 4 and an unknown (4 .. 7).
 */
public final class TwoSides {
    public static final int NONE = -1, UNKNOWN = -2, OUTSIDE = -3, NOT = -4, FULL = -5, SPENT = -6, MANY = 1000000001;

    /** Of unknowns, equations, words of the desk and patterns there are as many. */
    private static final int FOUR = 4;
    private static final int LETTERS = 3;
    private static final int ALL_LETTERS = 7;
    private static final int FIRST_UNKNOWN = 4;
    private static final int MOST_ITEMS = 12;
    private static final int MOST_PUT = 8;
    private static final int MOST_PLACES = 60;
    private static final int LAST_ANSWER = 999999999;

    private final Text text = new Text();
    private final Equations equations = new Equations();
    private final Answers solver = new Answers();
    private final Chase chase = new Chase();
    private final Word[] desk = new Word[FOUR];
    private final Alike places = new Alike();
    private final Side[] patterns = new Side[FOUR];
    private final Samples samples = new Samples();

    public TwoSides() {
        for (int i = 0; i < FOUR; i++) {
            desk[i] = new Word();
            patterns[i] = new Side();
        }
    }

    // ---- texts

    public int write(long bytes, int n) {
        if (n < 1 || n > 8) return OUTSIDE;
        if (!text.hasRoomFor(n)) return FULL;
        for (int i = 0; i < n; i++) text.add((int) (bytes >> 8 * i & 255));
        return text.length();
    }

    public int erase() {
        int had = text.length();
        text.empty();
        return had;
    }

    public int fault() {
        return text.firstFault();
    }

    public int take() {
        if (text.firstFault() != NONE) return NOT;
        text.tellEquations(equations);
        text.empty();
        solver.forget();
        chase.forget();
        return equations.length();
    }

    public int item(int equation, int side, int i) {
        if (!equations.has(equation)) return UNKNOWN;
        if (side < 0 || side > 1 || i < 0) return OUTSIDE;
        return equations.side(equation, side).at(i);
    }

    // ---- answers

    public int bounds(int unknown, int lo, int hi, int letters) {
        if (isNoneOfFour(unknown)) return UNKNOWN;
        if (lo < 0 || hi > MOST_PUT || lo > hi) return OUTSIDE;
        if (letters < 0 || letters > ALL_LETTERS) return OUTSIDE;
        solver.limit(unknown, lo, hi, letters);
        return 1;
    }

    public int answers() {
        solver.survey(equations);
        return capped(solver.howMany());
    }

    public int answer(int i, int unknown, int k) {
        if (isNoneOfFour(unknown)) return UNKNOWN;
        if (i < 0 || i > LAST_ANSWER || k < -1) return OUTSIDE;
        solver.survey(equations);
        return solver.told(equations, i, unknown, k);
    }

    public int tell(int unknown, int word, int n) {
        if (isNoneOfFour(unknown)) return UNKNOWN;
        if (n < 0 || n > MOST_PUT || hasNoLetter(word, n)) return OUTSIDE;
        solver.hear(unknown, word, n);
        return 1;
    }

    public int rank() {
        solver.survey(equations);
        return capped(solver.rankOfHeard(equations));
    }

    public int sure(int unknown, int place) {
        if (isNoneOfFour(unknown)) return UNKNOWN;
        if (place < 0 || place >= MOST_PUT) return OUTSIDE;
        solver.survey(equations);
        return solver.sureLetter(unknown, place);
    }

    // ---- chains

    public int met(int equation) {
        if (!equations.has(equation)) return UNKNOWN;
        int refused = chase.follow(equations, equation);
        return refused != 0 ? refused : chase.howManyMet(equation);
    }

    public int fewest(int equation) {
        if (!equations.has(equation)) return UNKNOWN;
        int refused = chase.follow(equations, equation);
        return refused != 0 ? refused : chase.fewestPuttings(equation);
    }

    public int ring(int equation) {
        if (!equations.has(equation)) return UNKNOWN;
        int refused = chase.follow(equations, equation);
        return refused != 0 ? refused : chase.ringOrFree(equation);
    }

    public int putting(int equation, int i) {
        if (!equations.has(equation)) return UNKNOWN;
        if (i < 0) return OUTSIDE;
        int refused = chase.follow(equations, equation);
        return refused != 0 ? refused : chase.chosen(equation, i);
    }

    public int found(int equation, int unknown, int k) {
        if (!equations.has(equation) || isNoneOfFour(unknown)) return UNKNOWN;
        if (k < -1) return OUTSIDE;
        int refused = chase.follow(equations, equation);
        return refused != 0 ? refused : chase.foundByIt(equation, unknown, k);
    }

    // ---- words

    public int word(int i, long word, int n) {
        if (isNoneOfFour(i)) return UNKNOWN;
        if (n < 0 || n > Word.MOST || hasNoLetter(word, n)) return OUTSIDE;
        desk[i].become(word, n);
        return 1;
    }

    public int of(int i, int what) {
        if (isNoneOfFour(i)) return UNKNOWN;
        Word word = desk[i];
        if (what == 0) return word.length();
        if (what == 1) return word.rootLength();
        if (what == 2) return word.length() - word.leastPeriod();
        if (what == 3) return word.leastTurn();
        if (what == 4) return word.fallingParts();
        if (what == 5) return word.leastPeriod();
        if (what == 6) return word.periods();
        return OUTSIDE;
    }

    public int part(int i, int k) {
        if (isNoneOfFour(i)) return UNKNOWN;
        if (k < 0) return OUTSIDE;
        return desk[i].fallingPart(k);
    }

    public int agree(int i, int j) {
        if (isNoneOfFour(i) || isNoneOfFour(j)) return UNKNOWN;
        return desk[i].agreesWith(desk[j]) ? 1 : 0;
    }

    public int turned(int i, int j) {
        if (isNoneOfFour(i) || isNoneOfFour(j)) return UNKNOWN;
        return desk[i].turnInto(desk[j]);
    }

    public int classes(int p, int q, int n, int place) {
        if (p < 1 || p > MOST_PLACES || q < 1 || q > MOST_PLACES) return OUTSIDE;
        if (n < 1 || n > MOST_PLACES || place < -1 || place >= n) return OUTSIDE;
        places.begin(n);
        places.joinApart(p);
        places.joinApart(q);
        return places.classesAheadOf(place == -1 ? n : places.first(place));
    }

    // ---- patterns

    public int pattern(int i) {
        if (isNoneOfFour(i)) return UNKNOWN;
        if (!text.isOneSide()) return NOT;
        text.tellSide(patterns[i]);
        text.empty();
        return patterns[i].length();
    }

    public int makes(int i, int word) {
        if (isNoneOfFour(i) || isNoneOfFour(word)) return UNKNOWN;
        if (patterns[i].length() == 0) return NOT;
        return desk[word].waysBy(patterns[i]);
    }

    public int carries(int i, int j) {
        if (isNoneOfFour(i) || isNoneOfFour(j)) return UNKNOWN;
        if (patterns[i].length() == 0 || patterns[j].length() == 0) return NOT;
        return patterns[i].canBecome(patterns[j]) ? 1 : 0;
    }

    public int sample(int word, int n) {
        if (n < 1 || n > Samples.LONGEST || hasNoLetter(word, n)) return OUTSIDE;
        if (samples.isFull()) return FULL;
        samples.add(word, n);
        return samples.length();
    }

    public int clear() {
        int had = samples.length();
        samples.empty();
        return had;
    }

    public int common(int k) {
        if (k < -1) return OUTSIDE;
        if (samples.length() == 0) return NOT;
        return samples.longestShared(k);
    }

    public int count(int what) {
        if (what == 0) return equations.length();
        if (what == 1) return text.length();
        if (what == 2) return equations.unknowns();
        if (what == 3) return samples.length();
        if (what == 4) return patternsWithItems();
        return OUTSIDE;
    }

    // ---- helpers

    private int patternsWithItems() {
        int many = 0;
        for (int i = 0; i < FOUR; i++) {
            if (patterns[i].length() > 0) many++;
        }
        return many;
    }

    private static boolean isNoneOfFour(int i) {
        return i < 0 || i >= FOUR;
    }

    private static boolean isUnknown(int item) {
        return item >= FIRST_UNKNOWN;
    }

    /** Which unknown an item is, of 0 .. 3. */
    private static int unknownOf(int item) {
        return item & 3;
    }

    private static int letterOf(long word, int i) {
        return (int) (word >> 2 * i & 3);
    }

    /** Whether one of the first n signs of a word is 3, which is no letter. */
    private static boolean hasNoLetter(long word, int n) {
        for (int i = 0; i < n; i++) {
            if (letterOf(word, i) == LETTERS) return true;
        }
        return false;
    }

    private static int capped(long many) {
        return many >= MANY ? MANY : (int) many;
    }

    /** Whether two stretches of a row are alike. */
    private static boolean sameStretch(int[] row, int a, int b, int length) {
        if (a < 0 || b < 0 || a + length > row.length || b + length > row.length) return false;
        for (int i = 0; i < length; i++) {
            if (row[a + i] != row[b + i]) return false;
        }
        return true;
    }

    /** A row of items: one side of an equation, or a pattern. */
    private static final class Side {
        private final int[] items = new int[MOST_ITEMS];
        private final int[] times = new int[FOUR];
        private final int[] lengths = new int[FOUR];
        private final int[] starts = new int[FOUR];
        private int size = 0;
        private int letters = 0;

        void empty() {
            size = 0;
            letters = 0;
            Arrays.fill(times, 0);
        }

        void add(int item) {
            if (size >= items.length) return;
            items[size] = item;
            size++;
            if (isUnknown(item)) times[unknownOf(item)]++;
            else letters++;
        }

        int length() {
            return size;
        }

        int at(int i) {
            return i >= 0 && i < size ? items[i] : NONE;
        }

        int timesOf(int unknown) {
            return isNoneOfFour(unknown) ? 0 : times[unknown];
        }

        /** How long it is, when words of these lengths are put for w, x, y, z. */
        int lengthBy(int w, int x, int y, int z) {
            return letters + times[0] * w + times[1] * x + times[2] * y + times[3] * z;
        }

        boolean canBecome(Side other) {
            return waysToMake(other.items, other.size) > 0;
        }

        /** In how many ways rows of one or more, put for its unknowns, make it the first n of a row. */
        int waysToMake(int[] row, int n) {
            int room = n - letters;
            int ways = 0;
            for (int w = least(0); w <= most(0, room); w++) {
                int behindW = room - w * times[0];
                for (int x = least(1); x <= most(1, behindW); x++) {
                    int behindX = behindW - x * times[1];
                    for (int y = least(2); y <= most(2, behindX); y++) {
                        int behindY = behindX - y * times[2];
                        int z = most(3, behindY);
                        if (z < least(3) || z * times[3] != behindY) continue;
                        setLengths(w, x, y, z);
                        if (reads(row, n)) ways++;
                    }
                }
            }
            return ways;
        }

        private void setLengths(int w, int x, int y, int z) {
            lengths[0] = w;
            lengths[1] = x;
            lengths[2] = y;
            lengths[3] = z;
        }

        private int least(int unknown) {
            return times[unknown] > 0 ? 1 : 0;
        }

        private int most(int unknown, int room) {
            return times[unknown] > 0 ? room / times[unknown] : 0;
        }

        /** Whether the row is this side, by the lengths that stand. */
        private boolean reads(int[] row, int n) {
            Arrays.fill(starts, NONE);
            int place = 0;
            for (int i = 0; i < size; i++) {
                if (place >= n || place >= row.length) return false;
                if (isUnknown(items[i])) {
                    int unknown = unknownOf(items[i]);
                    if (starts[unknown] == NONE) starts[unknown] = place;
                    else if (!sameStretch(row, starts[unknown], place, lengths[unknown])) return false;
                    place += lengths[unknown];
                } else {
                    if (row[place] != items[i]) return false;
                    place++;
                }
            }
            return place == n;
        }
    }

    /** The text: bytes, and how they are read. */
    private static final class Text {
        private static final int BLANK = 32, SEMICOLON = 59, EQUALS = 61;

        private final int[] bytes = new int[100];
        private int size = 0;

        void empty() {
            size = 0;
        }

        int length() {
            return size;
        }

        boolean hasRoomFor(int n) {
            return n <= bytes.length - size;
        }

        void add(int b) {
            if (size >= bytes.length) return;
            bytes[size] = b;
            size++;
        }

        private static int itemOf(int b) {
            if (b >= 'a' && b <= 'c') return b - 'a';
            if (b >= 'w' && b <= 'z') return b - 'w' + FIRST_UNKNOWN;
            return NONE;
        }

        int firstFault() {
            int ended = 0, side = 0, items = 0;
            for (int place = 0; place < size; place++) {
                int b = bytes[place];
                if (b == BLANK) continue;
                if (itemOf(b) != NONE && items < MOST_ITEMS) {
                    items++;
                } else if (b == EQUALS && side == 0) {
                    side = 1;
                    items = 0;
                } else if (b == SEMICOLON && side == 1 && ended < FOUR - 1) {
                    ended++;
                    side = 0;
                    items = 0;
                } else {
                    return place;
                }
            }
            return side == 1 ? NONE : size;
        }

        /** To be called of a text without a fault. */
        void tellEquations(Equations told) {
            told.begin();
            int side = 0;
            for (int place = 0; place < size; place++) {
                int b = bytes[place];
                if (b == EQUALS) {
                    side = 1;
                } else if (b == SEMICOLON) {
                    side = 0;
                    told.beginNext();
                } else if (itemOf(b) != NONE) {
                    told.last(side).add(itemOf(b));
                }
            }
        }

        boolean isOneSide() {
            int items = 0;
            for (int place = 0; place < size; place++) {
                if (bytes[place] == BLANK) continue;
                if (itemOf(bytes[place]) == NONE) return false;
                items++;
            }
            return items >= 1 && items <= MOST_ITEMS;
        }

        /** To be called of a text that is one side. */
        void tellSide(Side told) {
            told.empty();
            for (int place = 0; place < size; place++) {
                if (itemOf(bytes[place]) != NONE) told.add(itemOf(bytes[place]));
            }
        }
    }

    /** The equations that stand. */
    private static final class Equations {
        private final Side[] sides = new Side[2 * FOUR];
        private int size = 0;

        Equations() {
            for (int i = 0; i < sides.length; i++) sides[i] = new Side();
        }

        void begin() {
            size = 0;
            beginNext();
        }

        void beginNext() {
            if (size >= FOUR) return;
            size++;
            last(0).empty();
            last(1).empty();
        }

        int length() {
            return size;
        }

        boolean has(int equation) {
            return equation >= 0 && equation < size;
        }

        Side side(int equation, int side) {
            int i = 2 * equation + side;
            return i >= 0 && i < sides.length ? sides[i] : sides[0];
        }

        Side last(int side) {
            return side(size - 1, side);
        }

        /** How often an unknown comes in an equation, both sides together. */
        int times(int equation, int unknown) {
            return side(equation, 0).timesOf(unknown) + side(equation, 1).timesOf(unknown);
        }

        boolean hasUnknown(int unknown) {
            for (int e = 0; e < size; e++) {
                if (times(e, unknown) > 0) return true;
            }
            return false;
        }

        int unknowns() {
            int many = 0;
            for (int u = 0; u < FOUR; u++) {
                if (hasUnknown(u)) many++;
            }
            return many;
        }
    }

    /** Nodes in classes of those that must be alike, each with the letters that it may be. */
    private static final class Alike {
        private final int[] first = new int[MOST_PLACES];
        private final int[] may = new int[MOST_PLACES];
        private int size = 0;

        void begin(int n) {
            size = Math.max(0, Math.min(n, first.length));
            for (int i = 0; i < size; i++) {
                first[i] = i;
                may[i] = ALL_LETTERS;
            }
        }

        void allow(int node, int letters) {
            if (node >= 0 && node < size) may[node] = letters;
        }

        /** The first node of a node's class. */
        int first(int node) {
            return node >= 0 && node < size ? first[node] : NONE;
        }

        /** The letters that the class may be, of which this node is the first. */
        int letters(int node) {
            return node >= 0 && node < size ? may[node] : 0;
        }

        /** Whether a letter is left to both, being alike. */
        boolean join(int a, int b) {
            if (a < 0 || a >= size || b < 0 || b >= size) return false;
            int keep = Math.min(first[a], first[b]), gone = Math.max(first[a], first[b]);
            if (keep == gone) return true;
            for (int i = gone; i < size; i++) {
                if (first[i] == gone) first[i] = keep;
            }
            may[keep] &= may[gone];
            return may[keep] != 0;
        }

        void joinApart(int period) {
            for (int i = 0; i + period < size; i++) join(i, i + period);
        }

        int classesAheadOf(int node) {
            int many = 0;
            for (int i = 0; i < node && i < size; i++) {
                if (first[i] == i) many++;
            }
            return many;
        }
    }

    /**
     * The words of given lengths that solve equations. Nodes are the letters 0 .. 2, then the places of w, of x,
     * of y, of z: so a class is counted in order by the first place that it has.
     */
    private static final class Filling {
        private final Alike alike = new Alike();
        private final int[] lengths = new int[FOUR];
        private final int[] starts = new int[FOUR];
        private final int[] chosen = new int[LETTERS + FOUR * MOST_PUT];
        private final int[] leftRow = new int[MOST_ITEMS * MOST_PUT];
        private final int[] rightRow = new int[MOST_ITEMS * MOST_PUT];
        private int nodes = 0;

        void lay(int lengthsCode) {
            nodes = LETTERS;
            for (int u = 0; u < FOUR; u++) {
                lengths[u] = Math.min(lengthsCode >> 12 - 4 * u & 15, MOST_PUT);
                starts[u] = nodes;
                nodes += lengths[u];
            }
        }

        /** Whether words of these lengths solve them, of the letters that each unknown may have. */
        boolean solves(Equations equations, int[] letters) {
            for (int e = 0; e < equations.length(); e++) {
                if (lengthOf(equations.side(e, 0)) != lengthOf(equations.side(e, 1))) return false;
            }
            beginClasses(letters);
            for (int e = 0; e < equations.length(); e++) {
                int n = Math.min(spread(equations.side(e, 0), leftRow), spread(equations.side(e, 1), rightRow));
                for (int i = 0; i < n; i++) {
                    if (leftRow[i] != rightRow[i] && !alike.join(leftRow[i], rightRow[i])) return false;
                }
            }
            return true;
        }

        private int lengthOf(Side side) {
            return side.lengthBy(lengths[0], lengths[1], lengths[2], lengths[3]);
        }

        private void beginClasses(int[] letters) {
            alike.begin(nodes);
            for (int l = 0; l < LETTERS; l++) alike.allow(l, 1 << l);
            for (int u = 0; u < FOUR && u < letters.length; u++) {
                for (int k = 0; k < lengths[u]; k++) alike.allow(starts[u] + k, letters[u]);
            }
        }

        /** A side as a row of nodes; how many. */
        private int spread(Side side, int[] row) {
            int n = 0;
            for (int i = 0; i < side.length(); i++) {
                int item = side.at(i);
                boolean unknown = isUnknown(item);
                int node = unknown ? starts[unknownOf(item)] : item;
                int behind = Math.min(row.length, n + (unknown ? lengths[unknownOf(item)] : 1));
                for (; n < behind; n++) {
                    row[n] = node;
                    node++;
                }
            }
            return n;
        }

        long ways() {
            long ways = 1;
            for (int node = LETTERS; node < nodes; node++) {
                if (alike.first(node) == node) ways *= Integer.bitCount(alike.letters(node));
            }
            return ways;
        }

        int length(int unknown) {
            return isNoneOfFour(unknown) ? 0 : lengths[unknown];
        }

        /** Chooses the words that come at a rank among all of these lengths. */
        void choose(long rank) {
            long rest = rank;
            for (int node = nodes - 1; node >= LETTERS; node--) {
                if (node >= chosen.length || alike.first(node) != node) continue;
                int many = Integer.bitCount(alike.letters(node));
                if (many == 0) continue;
                chosen[node] = letterAfter(alike.letters(node), (int) (rest % many));
                rest /= many;
            }
        }

        /** Of some letters the one that so many are ahead of. */
        private static int letterAfter(int letters, int ahead) {
            for (int l = 0; l < LETTERS; l++) {
                if ((letters >> l & 1) == 1 && Integer.bitCount(letters & (1 << l) - 1) == ahead) return l;
            }
            return NONE;
        }

        int chosenLetter(int unknown, int k) {
            if (isNoneOfFour(unknown)) return NONE;
            int first = alike.first(starts[unknown] + k);
            if (first < LETTERS || first >= chosen.length) return first;
            return chosen[first];
        }

        /** The letter that stands there in all words of these lengths. */
        int onlyLetter(int unknown, int k) {
            if (isNoneOfFour(unknown) || k >= lengths[unknown]) return NONE;
            int letters = alike.letters(alike.first(starts[unknown] + k));
            return Integer.bitCount(letters) == 1 ? letterAfter(letters, 0) : NONE;
        }

        /** Which of the words of these lengths are those told; NONE: none are. */
        long rankOf(int[] words) {
            long rank = 0;
            for (int u = 0; u < FOUR && u < words.length; u++) {
                for (int k = 0; k < lengths[u]; k++) {
                    int node = starts[u] + k, first = alike.first(node), letter = letterOf(words[u], k);
                    if (first < 0 || node >= chosen.length) return NONE;
                    if (first < LETTERS ? first != letter : first != node && chosen[first] != letter) return NONE;
                    chosen[node] = letter;
                    if (first != node) continue;
                    int letters = alike.letters(node);
                    if ((letters >> letter & 1) == 0) return NONE;
                    rank = rank * Integer.bitCount(letters) + Integer.bitCount(letters & (1 << letter) - 1);
                }
            }
            return rank;
        }
    }

    /** All answers within the bounds, told by rows: a row is all answers of the same four lengths. */
    private static final class Answers {
        private static final int MOST_ROWS = 6561;
        private static final int UNSEEN = -2;

        private final int[] lo = new int[FOUR];
        private final int[] hi = new int[FOUR];
        private final int[] letters = new int[FOUR];
        private final int[] heard = new int[FOUR];
        private final int[] heardLengths = new int[FOUR];
        private final int[] least = new int[FOUR];
        private final int[] most = new int[FOUR];
        private final int[] sureLetters = new int[FOUR * MOST_PUT];
        private final Filling filling = new Filling();
        // the rows are long: they are made once, when the first survey needs them
        private int[] rowLengths = new int[0];
        private long[] ahead = new long[0];
        private int rows = 0;
        private long total = 0;
        private boolean surveyed = false;

        Answers() {
            Arrays.fill(hi, 4);
            Arrays.fill(letters, ALL_LETTERS);
        }

        void forget() {
            surveyed = false;
        }

        void limit(int unknown, int from, int to, int may) {
            if (isNoneOfFour(unknown)) return;
            if (lo[unknown] == from && hi[unknown] == to && letters[unknown] == may) return;
            lo[unknown] = from;
            hi[unknown] = to;
            letters[unknown] = may;
            surveyed = false;
        }

        void hear(int unknown, int word, int n) {
            if (isNoneOfFour(unknown)) return;
            heard[unknown] = word;
            heardLengths[unknown] = n;
        }

        /** Finds the rows anew, if equations or bounds changed; to be called ahead of what follows. */
        void survey(Equations equations) {
            if (surveyed) return;
            surveyed = true;
            rows = 0;
            total = 0;
            if (rowLengths.length < MOST_ROWS || ahead.length < MOST_ROWS) {
                rowLengths = new int[MOST_ROWS];
                ahead = new long[MOST_ROWS];
            }
            Arrays.fill(sureLetters, UNSEEN);
            for (int u = 0; u < FOUR; u++) {
                // an unknown that is in no equation is put no letters, and has no word if its bounds forbid that
                boolean used = equations.hasUnknown(u);
                least[u] = lo[u];
                most[u] = used ? hi[u] : 0;
            }
            int shortest = least[0] + least[1] + least[2] + least[3];
            int longest = most[0] + most[1] + most[2] + most[3];
            for (int all = shortest; all <= longest; all++) surveyOfLength(equations, all);
        }

        long howMany() {
            return total;
        }

        int told(Equations equations, int i, int unknown, int k) {
            int row = rowOf(i);
            if (i < 0 || i >= total || row >= rows) return NONE;
            filling.lay(rowLengths[row]);
            if (k == -1) return filling.length(unknown);
            if (k >= filling.length(unknown) || !filling.solves(equations, letters)) return NONE;
            filling.choose(i - ahead[row]);
            return filling.chosenLetter(unknown, k);
        }

        /** The last row that no more answers than i are ahead of. */
        private int rowOf(long i) {
            int low = 0, high = rows - 1;
            for (int step = 0; step < 32 && low < high; step++) {
                int middle = (low + high + 1) / 2;
                if (ahead[middle] <= i) low = middle;
                else high = middle - 1;
            }
            return low;
        }

        long rankOfHeard(Equations equations) {
            int code = codeOf(heardLengths[0], heardLengths[1], heardLengths[2], heardLengths[3]);
            for (int row = 0; row < rows; row++) {
                if (rowLengths[row] != code) continue;
                filling.lay(code);
                if (!filling.solves(equations, letters)) return NONE;
                long within = filling.rankOf(heard);
                return within == NONE ? NONE : ahead[row] + within;
            }
            return NONE;
        }

        int sureLetter(int unknown, int place) {
            int cell = unknown * MOST_PUT + place;
            if (cell < 0 || cell >= sureLetters.length || sureLetters[cell] == UNSEEN) return NONE;
            return sureLetters[cell];
        }

        private static int codeOf(int w, int x, int y, int z) {
            return w << 12 | x << 8 | y << 4 | z;
        }

        private void surveyOfLength(Equations equations, int all) {
            for (int w = least[0]; w <= most[0] && w <= all; w++) {
                for (int x = least[1]; x <= most[1] && w + x <= all; x++) {
                    int behind = all - w - x;
                    for (int y = Math.max(least[2], behind - most[3]); y <= most[2] && y <= behind - least[3]; y++) {
                        addRow(equations, codeOf(w, x, y, behind - y));
                    }
                }
            }
        }

        private void addRow(Equations equations, int code) {
            filling.lay(code);
            if (rows >= rowLengths.length || rows >= ahead.length || !filling.solves(equations, letters)) return;
            long ways = filling.ways();
            if (ways == 0) return;
            rowLengths[rows] = code;
            ahead[rows] = total;
            rows++;
            total += ways;
            noteSure();
        }

        private void noteSure() {
            for (int u = 0; u < FOUR; u++) {
                for (int k = 0; k < MOST_PUT; k++) {
                    int cell = u * MOST_PUT + k;
                    if (sureLetters[cell] == NONE) continue;
                    int letter = filling.onlyLetter(u, k);
                    sureLetters[cell] = sureLetters[cell] == UNSEEN || sureLetters[cell] == letter ? letter : NONE;
                }
            }
        }
    }

    /** An equation on its way, and the puttings that can be there. */
    private static final class Pair {
        /** An equation that may be chased never has more items than at first; two more stand until it is struck. */
        private static final int MOST = 32;
        private static final int NEAR_ITEMS = 20;

        private final int[][] rows = new int[2][MOST];
        private final int[] sizes = new int[2];
        private int struck = 0;
        private long near = 0;
        private int far = 0;

        private void begin() {
            sizes[0] = 0;
            sizes[1] = 0;
            struck = 0;
        }

        private void add(int side, int item) {
            if (side < 0 || side > 1 || sizes[side] >= MOST) return;
            rows[side][sizes[side]] = item;
            sizes[side]++;
        }

        void read(Side left, Side right) {
            begin();
            for (int i = 0; i < left.length(); i++) add(0, left.at(i));
            for (int i = 0; i < right.length(); i++) add(1, right.at(i));
        }

        void strike() {
            int both = Math.min(sizes[0], sizes[1]);
            while (struck < both && rows[0][struck] == rows[1][struck]) struck++;
        }

        /** Becomes another equation with a putting: an unknown becomes an item and itself, or nothing (NONE). */
        void become(Pair from, int unknown, int put) {
            begin();
            for (int side = 0; side < 2; side++) {
                for (int i = from.struck; i < from.sizes[side]; i++) {
                    int item = from.rows[side][i];
                    if (item == unknown && put == NONE) continue;
                    if (item == unknown) add(side, put);
                    add(side, item);
                }
            }
        }

        /** Which unknowns are in it, as bits. */
        int unknowns() {
            int bits = 0;
            for (int side = 0; side < 2; side++) {
                for (int i = struck; i < sizes[side]; i++) {
                    if (isUnknown(rows[side][i])) bits |= 1 << unknownOf(rows[side][i]);
                }
            }
            return bits;
        }

        private int head(int side) {
            return struck < sizes[side] ? rows[side][struck] : NONE;
        }

        int puttings() {
            boolean left = isUnknown(head(0)), right = isUnknown(head(1));
            if (left && right) return 4;
            if (!left && !right) return 0;
            return (left ? head(1) : head(0)) == NONE ? 1 : 2;
        }

        /** The unknown that putting k is for. */
        int unknownPut(int k) {
            boolean left = isUnknown(head(0)), right = isUnknown(head(1));
            if (left && right) return k == 0 || k == 2 ? head(0) : head(1);
            return left ? head(0) : head(1);
        }

        /** The item that putting k puts ahead of its unknown; NONE: it is put nothing. */
        int itemPut(int k) {
            if (puttings() == 4) return k < 2 ? NONE : k == 2 ? head(1) : head(0);
            if (k == 0) return NONE;
            return isUnknown(head(0)) ? head(1) : head(0);
        }

        /** Tells the struck equation by two numbers: near has 20 items, far the others and both lengths. */
        void pack() {
            near = 0;
            far = sizes[0] - struck << 12 | sizes[1] - struck << 17;
            int n = 0;
            for (int side = 0; side < 2; side++) {
                for (int i = struck; i < sizes[side]; i++) {
                    if (n < NEAR_ITEMS) near |= (long) rows[side][i] << 3 * n;
                    else far |= rows[side][i] << 3 * (n - NEAR_ITEMS);
                    n++;
                }
            }
        }

        void unpack(long packedNear, int packedFar) {
            begin();
            int left = packedFar >> 12 & 31, both = left + (packedFar >> 17 & 31);
            for (int n = 0; n < both; n++) {
                int item = n < NEAR_ITEMS ? (int) (packedNear >> 3 * n & 7) : packedFar >> 3 * (n - NEAR_ITEMS) & 7;
                add(n < left ? 0 : 1, item);
            }
        }
    }

    /** The equations met, as nodes; edge 4 s + k is putting k of node s. Node 0 is the one that is chased. */
    private static final class Graph {
        private static final int MOST = 1500;
        private static final int SLOTS = 4096;

        private final Pair here = new Pair();
        private final Pair there = new Pair();
        private final long[] near = new long[MOST];
        private final int[] far = new int[MOST];
        private final int[] slots = new int[SLOTS];
        private final int[] target = new int[FOUR * MOST];
        private final boolean[] frees = new boolean[FOUR * MOST];
        private final int[] cameBy = new int[MOST];
        private final int[] lastInto = new int[MOST];
        private final int[] otherInto = new int[FOUR * MOST];
        private final boolean[] leads = new boolean[MOST];
        private final int[] into = new int[MOST];
        private final int[] queue = new int[MOST];
        private int size = 0;
        private int done = NONE;
        private boolean spent = false;
        private boolean freesFirst = false;

        int length() {
            return size;
        }

        boolean isSpent() {
            return spent;
        }

        boolean hasAnswer() {
            return done != NONE;
        }

        void grow(Side left, Side right) {
            size = 0;
            done = NONE;
            spent = false;
            Arrays.fill(slots, 0);
            there.read(left, right);
            int unknowns = there.unknowns();
            there.strike();
            freesFirst = (unknowns & ~there.unknowns()) != 0;
            meet(NONE);
            for (int node = 0; node < MOST && node < size && !spent; node++) expand(node);
        }

        private void expand(int node) {
            here.unpack(near[node], far[node]);
            int puttings = here.puttings(), unknowns = here.unknowns();
            for (int k = 0; k < FOUR; k++) {
                int edge = FOUR * node + k;
                target[edge] = NONE;
                frees[edge] = false;
                if (k >= puttings || spent) continue;
                int unknown = here.unknownPut(k), put = here.itemPut(k);
                there.become(here, unknown, put);
                there.strike();
                int gone = unknowns & ~there.unknowns();
                if (put == NONE) gone &= ~(1 << unknownOf(unknown));
                frees[edge] = gone != 0;
                target[edge] = meet(edge);
            }
        }

        /** The node of the equation that stands there, a new one if it was not met yet; NONE: there are too many. */
        private int meet(int edge) {
            there.pack();
            long mixed = (there.near ^ there.far * 0x9E3779B97F4A7C15L) * 0xBF58476D1CE4E5B9L;
            int slot = (int) (mixed >>> 40) & SLOTS - 1;
            for (int probe = 0; probe < SLOTS && slots[slot] != 0; probe++) {
                int node = slots[slot] - 1;
                if (near[node] == there.near && far[node] == there.far) return node;
                slot = slot + 1 & SLOTS - 1;
            }
            if (size >= MOST) {
                spent = true;
                return NONE;
            }
            slots[slot] = size + 1;
            near[size] = there.near;
            far[size] = there.far;
            cameBy[size] = edge;
            if (there.far == 0) done = size;
            size++;
            return size - 1;
        }

        /**
         * Writes the chain, its last putting first; how many. Nodes are met by rising rows of puttings, so
         * the one by which DONE was met is the first of the fewest.
         */
        int chainBack(int[] steps) {
            int many = 0;
            int node = done;
            for (int n = 0; n < size && node > 0 && many < steps.length; n++) {
                int edge = cameBy[node];
                if (edge < 0) break;
                node = edge / FOUR;
                here.unpack(near[node], far[node]);
                int k = edge % FOUR;
                steps[many] = k | here.unknownPut(k) << 2 | here.itemPut(k) + 1 << 5;
                many++;
            }
            return many;
        }

        /** As promise 15 tells it, of a graph that has an answer. */
        int ringOrFree() {
            markLeading();
            if (freesFirst) return 2;
            for (int edge = 0; edge < FOUR * size; edge++) {
                if (frees[edge] && isLeading(target[edge])) return 2;
            }
            return hasRing() ? 1 : 0;
        }

        private boolean isLeading(int node) {
            return node >= 0 && node < size && leads[node];
        }

        /** Marks all nodes from which DONE is met. */
        private void markLeading() {
            for (int node = 0; node < size; node++) {
                lastInto[node] = NONE;
                leads[node] = false;
            }
            for (int edge = 0; edge < FOUR * size; edge++) {
                int node = target[edge];
                if (node < 0) continue;
                otherInto[edge] = lastInto[node];
                lastInto[node] = edge;
            }
            if (done < 0) return;
            leads[done] = true;
            queue[0] = done;
            int queued = 1;
            for (int i = 0; i < MOST && i < queued; i++) {
                int edge = lastInto[queue[i]];
                for (int n = 0; n < FOUR * size && edge >= 0; n++) {
                    int node = edge / FOUR;
                    if (!leads[node] && queued < MOST) {
                        leads[node] = true;
                        queue[queued] = node;
                        queued++;
                    }
                    edge = otherInto[edge];
                }
            }
        }

        /** Whether some leading nodes are left, when again and again those are taken that no edge leads into. */
        private boolean hasRing() {
            int leading = 0, queued = 0;
            for (int node = 0; node < size; node++) into[node] = 0;
            for (int edge = 0; edge < FOUR * size; edge++) {
                if (isLeading(target[edge])) into[target[edge]]++;
            }
            for (int node = 0; node < size; node++) {
                if (!leads[node]) continue;
                leading++;
                if (into[node] == 0) {
                    queue[queued] = node;
                    queued++;
                }
            }
            for (int i = 0; i < MOST && i < queued; i++) {
                for (int k = 0; k < FOUR; k++) {
                    int node = target[FOUR * queue[i] + k];
                    if (!isLeading(node)) continue;
                    into[node]--;
                    if (into[node] == 0 && queued < MOST) {
                        queue[queued] = node;
                        queued++;
                    }
                }
            }
            return queued < leading;
        }
    }

    /** What came of chasing each equation, kept until others are taken. */
    private static final class Chase {
        private static final int LONGEST = 300;

        private final boolean[] followed = new boolean[FOUR];
        private final int[] refused = new int[FOUR];
        private final int[] manyMet = new int[FOUR];
        private final int[] manyPut = new int[FOUR];
        private final int[] rings = new int[FOUR];
        private final int[][] words = new int[FOUR][LONGEST];
        private final int[] sizes = new int[FOUR];
        // the graph and the steps are long: they are made once, when the first chase needs them
        private final int[][] steps = new int[FOUR][0];
        private Graph graph = null;

        void forget() {
            for (int e = 0; e < FOUR; e++) followed[e] = false;
        }

        /** Chases an equation: 0, or why it is refused. */
        int follow(Equations equations, int e) {
            if (isNoneOfFour(e)) return UNKNOWN;
            if (followed[e]) return refused[e];
            followed[e] = true;
            refused[e] = NOT;
            for (int u = 0; u < FOUR; u++) {
                if (equations.times(e, u) > 2) return NOT;
            }
            if (graph == null) graph = new Graph();
            if (steps[e].length == 0) steps[e] = new int[Graph.MOST];
            graph.grow(equations.side(e, 0), equations.side(e, 1));
            refused[e] = graph.isSpent() ? SPENT : 0;
            if (graph.isSpent()) return SPENT;
            manyMet[e] = graph.length();
            manyPut[e] = graph.hasAnswer() ? graph.chainBack(steps[e]) : NONE;
            rings[e] = graph.hasAnswer() ? graph.ringOrFree() : NONE;
            return 0;
        }

        int howManyMet(int e) {
            return isNoneOfFour(e) ? NONE : manyMet[e];
        }

        int fewestPuttings(int e) {
            return isNoneOfFour(e) ? NONE : manyPut[e];
        }

        int ringOrFree(int e) {
            return isNoneOfFour(e) ? NONE : rings[e];
        }

        int chosen(int e, int i) {
            if (isNoneOfFour(e) || i < 0 || i >= manyPut[e] || manyPut[e] > steps[e].length) return NONE;
            return steps[e][manyPut[e] - 1 - i] & 3;
        }

        int foundByIt(int e, int unknown, int k) {
            if (isNoneOfFour(e) || isNoneOfFour(unknown) || manyPut[e] == NONE) return NONE;
            if (!buildWords(e)) return SPENT;
            if (k == -1) return sizes[unknown];
            return k < 0 || k >= sizes[unknown] ? NONE : words[unknown][sizes[unknown] - 1 - k];
        }

        /** Builds the words by the chain, each from its last letter to its first; whether none is too long. */
        private boolean buildWords(int e) {
            Arrays.fill(sizes, 0);
            for (int i = 0; i < manyPut[e] && i < steps[e].length; i++) {
                int unknown = unknownOf(steps[e][i] >> 2 & 7), put = (steps[e][i] >> 5) - 1;
                if (put == NONE) sizes[unknown] = 0;
                else if (isUnknown(put)) prependWord(unknown, unknownOf(put));
                else prependLetter(unknown, put);
                if (sizes[unknown] > LONGEST) return false;
            }
            return true;
        }

        private void prependLetter(int unknown, int letter) {
            if (sizes[unknown] < LONGEST) words[unknown][sizes[unknown]] = letter;
            sizes[unknown]++;
        }

        private void prependWord(int unknown, int ahead) {
            int both = sizes[unknown] + sizes[ahead];
            if (both <= LONGEST) System.arraycopy(words[ahead], 0, words[unknown], sizes[unknown], sizes[ahead]);
            sizes[unknown] = both;
        }
    }

    /** A word of the desk. */
    private static final class Word {
        static final int MOST = 30;

        private final int[] letters = new int[MOST];
        private int size = 0;

        void become(long word, int n) {
            size = Math.max(0, Math.min(n, MOST));
            for (int i = 0; i < size; i++) letters[i] = letterOf(word, i);
        }

        int length() {
            return size;
        }

        private boolean hasPeriod(int p) {
            for (int i = 0; i + p < size; i++) {
                if (letters[i] != letters[i + p]) return false;
            }
            return true;
        }

        int leastPeriod() {
            for (int p = 1; p <= size; p++) {
                if (hasPeriod(p)) return p;
            }
            return 0;
        }

        int rootLength() {
            for (int p = 1; p <= size; p++) {
                if (size % p == 0 && hasPeriod(p)) return p;
            }
            return 0;
        }

        int periods() {
            int many = 0;
            for (int p = 1; p <= size; p++) {
                if (hasPeriod(p)) many++;
            }
            return many;
        }

        /** Letter i of turn k. */
        private int turnedLetter(int k, int i) {
            int place = k + i < size ? k + i : k + i - size;
            return place >= 0 && place < size ? letters[place] : NONE;
        }

        int leastTurn() {
            int best = 0;
            for (int k = 1; k < size; k++) {
                if (isTurnAhead(k, best)) best = k;
            }
            return best;
        }

        private boolean isTurnAhead(int k, int other) {
            for (int i = 0; i < size; i++) {
                int unlike = turnedLetter(k, i) - turnedLetter(other, i);
                if (unlike != 0) return unlike < 0;
            }
            return false;
        }

        int fallingParts() {
            int many = 0, from = 0;
            for (; many < MOST && from < size; many++) from += fallingLength(from);
            return many;
        }

        int fallingPart(int k) {
            int from = 0;
            for (int part = 0; part < k && part < MOST && from < size; part++) from += fallingLength(from);
            return from < size ? fallingLength(from) : NONE;
        }

        /** The length of the falling part from a place: it goes on until a letter is less than a period ago. */
        private int fallingLength(int from) {
            int like = from, to = from + 1;
            for (; to < size && letters[like] <= letters[to]; to++) {
                like = letters[like] < letters[to] ? from : like + 1;
            }
            return Math.max(1, to - like);
        }

        boolean agreesWith(Word other) {
            int both = size + other.size;
            for (int i = 0; i < both; i++) {
                int here = i < size ? letters[i] : other.letters[i - size];
                int there = i < other.size ? other.letters[i] : letters[i - other.size];
                if (here != there) return false;
            }
            return true;
        }

        /** The least turn by which it is the other one. */
        int turnInto(Word other) {
            if (size != other.size) return NONE;
            if (size == 0) return 0;
            for (int k = 0; k < size; k++) {
                if (isTurn(k, other)) return k;
            }
            return NONE;
        }

        private boolean isTurn(int k, Word other) {
            for (int i = 0; i < size && i < other.size; i++) {
                if (turnedLetter(k, i) != other.letters[i]) return false;
            }
            return true;
        }

        int waysBy(Side pattern) {
            return pattern.waysToMake(letters, size);
        }
    }

    /** The samples, and the longest row of letters and x that makes them all. */
    private static final class Samples {
        static final int LONGEST = 8;
        private static final int MOST = 6;
        private static final int X = 5;

        private final int[][] words = new int[MOST][LONGEST];
        private final int[] sizes = new int[MOST];
        private final int[] trial = new int[LONGEST];
        private final int[] best = new int[LONGEST];
        private int size = 0;
        private int bestSize = 0;
        private boolean sought = false;

        int length() {
            return size;
        }

        boolean isFull() {
            return size >= MOST;
        }

        void empty() {
            size = 0;
            sought = false;
        }

        void add(int word, int n) {
            if (size >= MOST) return;
            sizes[size] = Math.max(0, Math.min(n, LONGEST));
            for (int i = 0; i < sizes[size]; i++) words[size][i] = letterOf(word, i);
            size++;
            sought = false;
        }

        int longestShared(int k) {
            if (!sought) seek();
            sought = true;
            if (k == -1) return bestSize;
            return k >= 0 && k < bestSize ? best[k] : NONE;
        }

        private void seek() {
            int longest = LONGEST;
            for (int s = 0; s < size; s++) longest = Math.min(longest, sizes[s]);
            bestSize = 0;
            for (int n = longest; n > 0 && bestSize == 0; n--) {
                // a bit of marks: there stands x
                for (int marks = 1; marks < 1 << n; marks++) {
                    if (makesAll(n, marks) && (bestSize == 0 || isTrialAhead())) keepTrial(n);
                }
            }
        }

        /** Whether a row of n, with x at the marks and the letters of the first sample elsewhere, makes all samples. */
        private boolean makesAll(int n, int marks) {
            for (int s = 0; s < size; s++) {
                int put = lengthOfX(s, n, Integer.bitCount(marks));
                if (put == NONE) return false;
                if (s == 0) layTrial(n, marks, put);
                if (!makesOne(s, n, put)) return false;
            }
            return true;
        }

        private int lengthOfX(int s, int n, int times) {
            int room = sizes[s] - (n - times);
            return times > 0 && room >= times && room % times == 0 ? room / times : NONE;
        }

        private void layTrial(int n, int marks, int put) {
            int place = 0;
            for (int i = 0; i < n && i < LONGEST; i++) {
                boolean isX = (marks >> i & 1) == 1;
                trial[i] = isX || place >= LONGEST ? X : words[0][place];
                place += isX ? put : 1;
            }
        }

        private boolean makesOne(int s, int n, int put) {
            int start = NONE, place = 0;
            for (int i = 0; i < n && i < LONGEST; i++) {
                if (place >= LONGEST) return false;
                if (trial[i] != X) {
                    if (words[s][place] != trial[i]) return false;
                    place++;
                } else {
                    if (start == NONE) start = place;
                    else if (!sameStretch(words[s], start, place, put)) return false;
                    place += put;
                }
            }
            return true;
        }

        private boolean isTrialAhead() {
            for (int i = 0; i < bestSize; i++) {
                if (trial[i] != best[i]) return trial[i] < best[i];
            }
            return false;
        }

        private void keepTrial(int n) {
            System.arraycopy(trial, 0, best, 0, LONGEST);
            bestSize = n;
        }
    }
}
