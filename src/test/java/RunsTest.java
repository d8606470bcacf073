import java.util.Random;

/** Runs of calls for any arguments, each answer held against the slow class that tries all. */
public final class RunsTest {
    private static final int[] EDGES = {Integer.MIN_VALUE, -3, -2, -1, 0, 1, 2, 3, 4, 5, 8, 9, 12, 13, 30, 31, 60, 61, 300,
        999999999, 1000000000, Integer.MAX_VALUE};
    private static final String[] CHASEABLE = {"xaby=ybax", "xy=yx", "x=w", "wxab=bawx", "xx=yay", "x=x", "xa=ax", "wxyz=zyxw",
        "xby=yax", "ab=ba", "wwxx=yyab", "wbyaabwabxay=aacccaacazcz", "xaabyz=zbyaax", "wxyzabc=cbazwyx"};

    private final Random random;
    private final TwoSides fast = new TwoSides();
    private final Slow slow = new Slow();
    private final StringBuilder said = new StringBuilder();
    private final int widest;
    private int calls = 0;

    private RunsTest(long seed, int widest) {
        random = new Random(seed);
        this.widest = widest;
    }

    public static void main(String[] args) {
        int runs = args.length > 0 ? Integer.parseInt(args[0]) : 700;
        for (int run = 0; run < runs; run++) new RunsTest(run, run % 3 == 0 ? 8 : 3).run();
        Due.end();
    }

    private void run() {
        // the most calls that one of these makes are some 60
        while (calls < 512 - 60) {
            if (said.length() > 4000) said.delete(0, 2000);
            one(random.nextInt(34));
        }
    }

    private int small(int n) {
        if (random.nextInt(40) == 0) return EDGES[random.nextInt(EDGES.length)];
        return random.nextInt(20) == 0 ? random.nextInt(n + 2) - 1 : random.nextInt(n);
    }

    private int letters() {
        if (random.nextInt(25) == 0) return random.nextInt();
        int word = 0;
        for (int i = 0, n = 1 + random.nextInt(3); i < 16; i++) word |= random.nextInt(n) << 2 * i;
        return word;
    }

    private long longLetters() {
        if (random.nextInt(25) == 0) return random.nextLong();
        long word = 0;
        int n = 1 + random.nextInt(3), period = 1 + random.nextInt(31);
        for (int i = 0; i < 32; i++) word |= i < period ? (long) random.nextInt(n) << 2 * i : (word >> 2 * (i - period) & 3) << 2 * i;
        return word;
    }

    private String someText() {
        if (random.nextInt(8) == 0) return CHASEABLE[random.nextInt(CHASEABLE.length)];
        StringBuilder s = new StringBuilder();
        int equations = 1 + random.nextInt(random.nextInt(4) == 0 ? 5 : 2);
        int most = random.nextInt(6) == 0 ? 14 : 6;
        int unknowns = 1 + random.nextInt(4), letters = 1 + random.nextInt(3);
        for (int e = 0; e < equations; e++) {
            if (e > 0) s.append(';');
            side(s, most, unknowns, letters);
            if (random.nextInt(30) > 0) s.append('=');
            side(s, most, unknowns, letters);
        }
        if (random.nextInt(15) == 0) s.insert(random.nextInt(s.length() + 1), (char) random.nextInt(256));
        return s.toString();
    }

    private void side(StringBuilder s, int most, int unknowns, int letters) {
        for (int i = random.nextInt(most); i > 0; i--) {
            if (random.nextInt(8) == 0) s.append(' ');
            if (random.nextBoolean()) s.append("abc".charAt(random.nextInt(letters)));
            else s.append("wxyz".charAt((random.nextInt(unknowns) + letters) % 4));
        }
    }

    private void due(String call, long got, long want) {
        calls++;
        said.append(call).append(' ').append(got).append("; ");
        if (want == Slow.SKIP) Due.hold(call + " lies between", got >= TwoSides.NONE && got <= TwoSides.MANY);
        else if (got != want) Due.be(said + "\n" + call, got, want);
        else Due.be(call, got, want);
    }

    private void write(String text) {
        for (int i = 0; i < text.length(); i += 8) {
            int n = Math.min(8, text.length() - i);
            long bytes = Due.bytes(text.substring(i, i + n));
            due("write " + text, fast.write(bytes, n), slow.write(bytes, n));
        }
        due("fault", fast.fault(), slow.fault());
    }

    private void one(int kind) {
        int i = small(4), j = small(4), k = small(8) - random.nextInt(2), n = small(9);
        switch (kind) {
            case 0, 1 -> take();
            case 2 -> due("erase", fast.erase(), slow.erase());
            case 3 -> due("fault", fast.fault(), slow.fault());
            case 4 -> due("item " + i + " " + j + " " + k, fast.item(i, j, k), slow.item(i, j, k));
            case 5, 6 -> bounds(i);
            case 7 -> due("answers", fast.answers(), slow.answers());
            case 8, 9, 10 -> {
                int at = random.nextBoolean() ? small(100) : small(Math.max(1, fast.answers()));
                due("answer " + at + " " + i + " " + k, fast.answer(at, i, k), slow.answer(at, i, k));
            }
            case 11 -> tell(i, letters(), n);
            case 12, 13 -> rank();
            case 14 -> due("sure " + i + " " + k, fast.sure(i, k), slow.sure(i, k));
            case 15 -> due("met " + i, fast.met(i), slow.met(i));
            case 16 -> due("fewest " + i, fast.fewest(i), slow.fewest(i));
            case 17 -> due("ring " + i, fast.ring(i), slow.ring(i));
            case 18 -> due("putting " + i + " " + k, fast.putting(i, k), slow.putting(i, k));
            case 19, 20 -> due("found " + i + " " + j + " " + k, fast.found(i, j, k), slow.found(i, j, k));
            default -> oneMore(kind, i, j, k, n);
        }
    }

    private void oneMore(int kind, int i, int j, int k, int n) {
        switch (kind) {
            case 21, 22 -> word(i);
            case 23 -> {
                for (int what = -1; what < 8; what++) due("of " + i + " " + what, fast.of(i, what), slow.of(i, what));
            }
            case 24 -> due("part " + i + " " + k, fast.part(i, k), slow.part(i, k));
            case 25 -> due("agree " + i + " " + j, fast.agree(i, j), slow.agree(i, j));
            case 26 -> due("turned " + i + " " + j, fast.turned(i, j), slow.turned(i, j));
            case 27 -> {
                int p = small(62), q = small(62), row = small(62), place = small(62);
                due("classes " + p + " " + q + " " + row, fast.classes(p, q, row, -1), slow.classes(p, q, row, -1));
                due("classes " + p + " " + q + " " + row + " " + place, fast.classes(p, q, row, place), slow.classes(p, q, row, place));
            }
            case 28 -> pattern(i);
            case 29 -> due("makes " + i + " " + j, fast.makes(i, j), slow.makes(i, j));
            case 30 -> due("carries " + i + " " + j, fast.carries(i, j), slow.carries(i, j));
            case 31 -> {
                int word = letters();
                due("sample " + word + " " + n, fast.sample(word, n), slow.sample(word, n));
            }
            case 32 -> {
                if (random.nextInt(5) == 0) due("clear", fast.clear(), slow.clear());
                due("common " + k, fast.common(k), slow.common(k));
            }
            default -> due("count " + k, fast.count(k), slow.count(k));
        }
    }

    private void take() {
        if (random.nextInt(3) > 0) due("erase", fast.erase(), slow.erase());
        write(someText());
        due("pattern " + 3, fast.pattern(3), slow.pattern(3));
        due("take", fast.take(), slow.take());
    }

    private void bounds(int i) {
        int a = small(widest), b = Math.max(a, small(widest)), may = random.nextInt(3) > 0 ? 7 : small(8);
        if (random.nextInt(6) > 0) a = 0;
        due("bounds " + i + " " + a + " " + b + " " + may, fast.bounds(i, a, b, may), slow.bounds(i, a, b, may));
    }

    private void tell(int i, int word, int n) {
        due("tell " + i + " " + word + " " + n, fast.tell(i, word, n), slow.tell(i, word, n));
    }

    private void rank() {
        long many = fast.answers();
        if (many > 0 && random.nextBoolean()) {
            int at = random.nextInt((int) Math.min(many, 1000000000));
            String[] words = Due.answer(fast, at).split(",", -1);
            calls += 8 + String.join("", words).length();
            for (int u = 0; u < 4; u++) tell(u, (int) Due.word(words[u]), words[u].length());
            Due.be("rank of answer " + at, fast.rank(), at);
        }
        due("rank", fast.rank(), slow.rank());
    }

    private void word(int i) {
        long word = longLetters();
        int n = random.nextInt(3) == 0 ? small(32) : small(9);
        due("word " + i + " " + word + " " + n, fast.word(i, word, n), slow.word(i, word, n));
        int j = random.nextInt(4), k = n > 0 && n < 31 ? random.nextInt(n) : 0;
        if (n > 0 && n < 31) {
            long turn = word >> 2 * k & (1L << 2 * (n - k)) - 1 | (word & (1L << 2 * k) - 1) << 2 * (n - k);
            due("word " + j + " " + turn + " " + n, fast.word(j, turn, n), slow.word(j, turn, n));
        }
    }

    private void pattern(int i) {
        due("erase", fast.erase(), slow.erase());
        StringBuilder s = new StringBuilder();
        side(s, random.nextInt(6) == 0 ? 15 : 6, 1 + random.nextInt(4), 1 + random.nextInt(3));
        write(s.toString());
        due("pattern " + i, fast.pattern(i), slow.pattern(i));
    }
}
