import java.util.function.IntUnaryOperator;

/** An object is used for 512 calls: each dear call as often as that, the last ones answered like the first ones. */
final class LastingTest {
    private static final int CALLS = 512;
    private static final String FOUR = "wxyzwxyzwxyz=zyxwzyxwzyxw;wxyzwxyzwxyz=zyxwyxzwyxwz;wwxxyyzzwxyz=wxyzwxyzwxyz;wxyzwxyzwxy=wxyzwxyzwx";

    private LastingTest() { }

    public static void main(String[] args) throws IllegalAccessException {
        Due.all(LastingTest.class);
    }

    /** Calls to the 512th one, some having been made. */
    private static void last(int made, IntUnaryOperator call, int due) {
        for (int n = made; n < CALLS; n++) Due.be("call " + n, call.applyAsInt(n), due);
    }

    private static TwoSides widest(String equations) {
        TwoSides t = Due.with(equations);
        for (int u = 0; u < 4; u++) t.bounds(u, 0, 8, 7);
        return t;
    }

    private static void promise02_writesUntilFullAndOn() {
        TwoSides t = new TwoSides();
        for (int n = 1; n <= 100; n++) Due.be("write " + n, t.write(32, 1), n);
        last(100, n -> t.write(32, 1), TwoSides.FULL);
    }

    private static void promise08_boundsAndAnswersByTurns() {
        TwoSides t = widest("wxyz=wxyz");
        Due.be("many", t.answers(), TwoSides.MANY);
        for (int n = 10; n < CALLS - 1; n += 2) {
            Due.be("bounds " + n, t.bounds(3, 8, 8, 6 + n / 2 % 2), 1);
            Due.be("answers " + n, t.answers(), TwoSides.MANY);
        }
    }

    private static void promise08_fourLongEquations() {
        TwoSides t = widest(FOUR.substring(0, 77));
        for (int n = 20; n < CALLS - 1; n += 2) {
            Due.be("bounds " + n, t.bounds(0, 0, n / 2 % 9, 1), 1);
            Due.hold("answers " + n, t.answers() > 0);
        }
    }

    private static void promise09_theLastOfManyAnswers() {
        TwoSides t = widest("wxyz=wxyz");
        int length = t.answer(999999999, 3, -1), letter = t.answer(999999999, 3, length - 1);
        Due.hold("a letter", letter >= 0 && letter < 3);
        last(16, n -> t.answer(999999999, 3, length - 1), letter);
    }

    private static void promise11_theLastRank() {
        TwoSides t = widest("wxyz=wxyz");
        for (int u = 0; u < 4; u++) Due.tell(t, u, "cccccccc");
        last(16, n -> t.rank(), TwoSides.MANY);
    }

    private static void promise13_spentAgainAndAgain() {
        TwoSides t = new TwoSides();
        for (int n = 0; n < CALLS - 5; n += 5) {
            Due.write(t, "aabzbaaaaaaz=ybbbbayxwwx");
            Due.be("take " + n, t.take(), 1);
            Due.be("met " + n, t.met(0), TwoSides.SPENT);
        }
    }

    private static void promise13_fifteenHundredAgainAndAgain() {
        TwoSides t = new TwoSides();
        for (int n = 0; n < CALLS - 5; n += 5) {
            Due.write(t, "zazx=yxayww");
            Due.be("take " + n, t.take(), 1);
            Due.be("met " + n, t.met(0), 1500);
            Due.be("ring " + n, t.ring(0), 2);
        }
    }

    private static void promise17_longWords() {
        TwoSides t = Due.with("wbyaabwabxay=aacccaacazcz");
        last(5, n -> t.found(0, 3, -1), 28);
    }

    private static void promise20_thirtyParts() {
        TwoSides t = new TwoSides();
        Due.desk(t, 0, "c".repeat(30));
        last(1, n -> t.part(0, 29), 1);
    }

    private static void promise23_sixtyPlaces() {
        TwoSides t = new TwoSides();
        last(0, n -> t.classes(1, 59, 60, 59), 0);
    }

    private static void promise25_mostWays() {
        TwoSides t = new TwoSides();
        Due.pattern(t, 0, "wxyz");
        Due.desk(t, 0, "c".repeat(30));
        last(4, n -> t.makes(0, 0), 3654);
    }

    private static void promise29_samplesAgainAndAgain() {
        TwoSides t = new TwoSides();
        for (int n = 0; n < CALLS - 8; n += 8) {
            for (int i = 1; i <= 6; i++) Due.be("sample", Due.sample(t, "abcaabca"), i);
            Due.be("common", t.common(-1), 8);
            Due.be("clear", t.clear(), 6);
        }
    }
}
