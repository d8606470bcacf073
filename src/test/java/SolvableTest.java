import java.util.Random;

/** Equations made around hidden words, so that most have answers: all that is told of them, held against the slow class. */
public final class SolvableTest {
    private final Random random;
    private final TwoSides fast = new TwoSides();
    private final Slow slow = new Slow();
    private final String[] hidden = new String[4];
    private String text = "";

    private SolvableTest(long seed) {
        random = new Random(seed);
    }

    public static void main(String[] args) {
        int runs = args.length > 0 ? Integer.parseInt(args[0]) : 2500;
        for (int run = 0; run < runs; run++) {
            new SolvableTest(run).answers();
            new SolvableTest(run).chains();
        }
        Due.end();
    }

    private void hide(int unknowns, int longest, int letters) {
        for (int u = 0; u < 4; u++) {
            StringBuilder word = new StringBuilder();
            for (int n = u < unknowns ? random.nextInt(longest + 1) : 0; n > 0; n--) word.append("abc".charAt(random.nextInt(letters)));
            hidden[u] = word.toString();
        }
    }

    /** A side that is a row of letters by the hidden words; no unknown comes more often than is left of it. */
    private String side(String row, int unknowns, int[] left) {
        StringBuilder side = new StringBuilder();
        for (int at = 0; side.length() < 12; ) {
            int u = random.nextInt(unknowns);
            if (left[u] > 0 && random.nextInt(3) > 0 && row.startsWith(hidden[u], at)) {
                side.append("wxyz".charAt(u));
                left[u]--;
                at += hidden[u].length();
            } else if (at < row.length()) {
                side.append(row.charAt(at));
                at++;
            } else {
                break;
            }
        }
        return side.toString();
    }

    private void take(int equations, int unknowns, int times, int longest) {
        StringBuilder all = new StringBuilder();
        for (int e = 0; e < equations; e++) {
            int[] left = {times, times, times, times};
            StringBuilder row = new StringBuilder();
            while (row.length() < longest && random.nextInt(6) > 0) {
                if (random.nextBoolean()) row.append(hidden[random.nextInt(4)]);
                else row.append("abc".charAt(random.nextInt(3)));
            }
            if (e > 0) all.append(';');
            String one = side(row.toString(), unknowns, left), other = side(row.toString(), unknowns, left);
            all.append(random.nextBoolean() ? one + "=" + other : other + "=" + one);
        }
        text = all.toString();
        for (int i = 0; i < text.length(); i += 8) {
            String eight = text.substring(i, Math.min(text.length(), i + 8));
            Due.be("write", fast.write(Due.bytes(eight), eight.length()), slow.write(Due.bytes(eight), eight.length()));
        }
        Due.be("take " + text, fast.take(), slow.take());
    }

    private void answers() {
        int unknowns = 1 + random.nextInt(4), longest = unknowns == 1 ? 7 : unknowns == 2 ? 4 : unknowns == 3 ? 3 : 2;
        hide(unknowns, longest, 1 + random.nextInt(3));
        take(1 + random.nextInt(3), unknowns, 9, 12);
        for (int u = 0; u < 4; u++) {
            int lo = random.nextInt(4) == 0 ? random.nextInt(hidden[u].length() + 1) : 0;
            int may = random.nextInt(4) == 0 ? random.nextInt(8) : 7;
            int hi = Math.max(lo, longest - random.nextInt(2));
            Due.be("bounds", fast.bounds(u, lo, hi, may), slow.bounds(u, lo, hi, may));
        }
        long many = slow.answers();
        if (many == Slow.SKIP) return;
        Due.be("answers of " + text, fast.answers(), many);
        for (int i = 0, step = 1 + (int) many / 40; i < many + 2; i += step) {
            for (int u = 0; u < 4; u++) {
                int n = fast.answer(i, u, -1);
                for (int k = -1; k <= n; k++) Due.be(text + " answer " + i + " " + u + " " + k, fast.answer(i, u, k), slow.answer(i, u, k));
            }
            if (i >= many) continue;
            String[] words = Due.answer(fast, i).split(",", -1);
            for (int u = 0; u < 4; u++) Due.tell(fast, u, words[u]);
            Due.be(text + " rank of answer " + i, fast.rank(), i);
        }
        for (int u = 0; u < 4; u++) for (int p = 0; p < 8; p++) Due.be(text + " sure " + u + " " + p, fast.sure(u, p), slow.sure(u, p));
    }

    private void chains() {
        int unknowns = 1 + random.nextInt(4);
        hide(unknowns, 5, 1 + random.nextInt(3));
        int equations = 1 + random.nextInt(2);
        take(equations, unknowns, 2, 16);
        for (int e = 0; e < equations; e++) {
            String what = text + " of " + e;
            Due.be("met " + what, fast.met(e), slow.met(e));
            Due.be("fewest " + what, fast.fewest(e), slow.fewest(e));
            Due.be("ring " + what, fast.ring(e), slow.ring(e));
            for (int i = 0; i <= Math.max(0, fast.fewest(e)); i++) Due.be("putting " + i + what, fast.putting(e, i), slow.putting(e, i));
            for (int u = 0; u < 4; u++) {
                for (int k = -1; k <= Math.max(0, fast.found(e, u, -1)); k++) {
                    Due.be("found " + u + " " + k + what, fast.found(e, u, k), slow.found(e, u, k));
                }
            }
        }
    }
}
