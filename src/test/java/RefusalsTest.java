import java.util.ArrayList;
import java.util.List;
import java.util.function.ToIntFunction;

/** "Refused, and nothing changes": each refused call, by itself, of an object that holds something of everything. */
final class RefusalsTest {
    private static final int UNKNOWN = TwoSides.UNKNOWN, OUTSIDE = TwoSides.OUTSIDE, NOT = TwoSides.NOT, FULL = TwoSides.FULL,
        SPENT = TwoSides.SPENT;
    private static final int[] BELOW = {Due.LEAST, -1}, NO_FOUR = Due.NO_FOUR;

    private final String text;
    private final String before;
    private final List<ToIntFunction<TwoSides>> calls = new ArrayList<>();

    private RefusalsTest(String text) {
        this.text = text;
        before = State.told(State.full(text));
    }

    public static void main(String[] args) throws IllegalAccessException {
        Due.all(RefusalsTest.class);
    }

    private void call(ToIntFunction<TwoSides> call) {
        calls.add(call);
    }

    /** Each call by itself is answered so, as often as it is made, and all else is told as before. */
    private void refused(int due) {
        for (int i = 0; i < calls.size(); i++) {
            TwoSides t = State.full(text);
            for (int n = 0; n < 3; n++) Due.be("call " + i, calls.get(i).applyAsInt(t), due);
            Due.same("all after call " + i, State.told(t), before);
        }
    }

    // ---- texts

    private static void promise02_outside() {
        RefusalsTest r = new RefusalsTest("x=a");
        for (int n : new int[] {Due.LEAST, -1, 0, 9, Due.MOST}) r.call(t -> t.write(Due.bytes("bbbbbbbb"), n));
        r.refused(OUTSIDE);
    }

    private static void promise02_full() {
        RefusalsTest r = new RefusalsTest("x=a" + " ".repeat(92));
        for (int n = 6; n <= 8; n++) {
            int bytes = n;
            r.call(t -> t.write(Due.bytes("bbbbbbbb"), bytes));
        }
        r.refused(FULL);
    }

    private static void promise02_fullOfAHundred() {
        RefusalsTest r = new RefusalsTest("x=a" + " ".repeat(97));
        for (int n = 1; n <= 8; n++) {
            int bytes = n;
            r.call(t -> t.write(Due.bytes("bbbbbbbb"), bytes));
        }
        r.refused(FULL);
    }

    private static void promise05_notOfAFault() {
        for (String text : new String[] {"", "  ", "ab", "x=a=", "x=a;", "abcabcabcabca=", "=;=;=;=;"}) {
            RefusalsTest r = new RefusalsTest(text);
            r.call(TwoSides::take);
            r.refused(NOT);
        }
    }

    private static void promise06_unknown() {
        RefusalsTest r = new RefusalsTest("x=a");
        for (int e : NO_FOUR) {
            r.call(t -> t.item(e, 0, 0));
            r.call(t -> t.item(e, 2, -1));
        }
        r.refused(UNKNOWN);
    }

    private static void promise06_outside() {
        RefusalsTest r = new RefusalsTest("x=a");
        for (int side : new int[] {Due.LEAST, -1, 2, Due.MOST}) r.call(t -> t.item(0, side, 0));
        for (int i : BELOW) r.call(t -> t.item(0, 0, i));
        r.refused(OUTSIDE);
    }

    // ---- answers

    private static void promise07_unknown() {
        RefusalsTest r = new RefusalsTest("x=a");
        for (int u : NO_FOUR) {
            r.call(t -> t.bounds(u, 0, 0, 0));
            r.call(t -> t.bounds(u, 5, 4, 8));
        }
        r.refused(UNKNOWN);
    }

    private static void promise07_outside() {
        RefusalsTest r = new RefusalsTest("x=a");
        int[][] bounds = {{-1, 0, 1}, {0, 9, 1}, {9, 9, 1}, {-1, -1, 1}, {1, 0, 1}, {8, 7, 1}, {0, 1, 8}, {0, 1, -1}, {Due.LEAST, 1, 1},
            {0, Due.MOST, 1}, {0, 1, Due.LEAST}, {0, 1, Due.MOST}, {Due.MOST, Due.LEAST, 1}};
        for (int u = 0; u < 4; u++) {
            int unknown = u;
            for (int[] b : bounds) r.call(t -> t.bounds(unknown, b[0], b[1], b[2]));
        }
        r.refused(OUTSIDE);
    }

    private static void promise09_unknown() {
        RefusalsTest r = new RefusalsTest("x=a");
        for (int u : NO_FOUR) {
            r.call(t -> t.answer(0, u, -1));
            r.call(t -> t.answer(-1, u, -2));
        }
        r.refused(UNKNOWN);
    }

    private static void promise09_outside() {
        RefusalsTest r = new RefusalsTest("x=a");
        for (int i : new int[] {Due.LEAST, -1, 1000000000, Due.MOST}) r.call(t -> t.answer(i, 1, 0));
        for (int k : new int[] {Due.LEAST, -2}) r.call(t -> t.answer(0, 1, k));
        r.refused(OUTSIDE);
    }

    private static void promise10_unknown() {
        RefusalsTest r = new RefusalsTest("x=a");
        for (int u : NO_FOUR) {
            r.call(t -> t.tell(u, 0, 3));
            r.call(t -> t.tell(u, 3, 9));
        }
        r.refused(UNKNOWN);
    }

    private static void promise10_outside() {
        RefusalsTest r = new RefusalsTest("x=a");
        for (int u = 0; u < 4; u++) {
            int unknown = u;
            for (int n : new int[] {Due.LEAST, -1, 9, Due.MOST}) r.call(t -> t.tell(unknown, 0, n));
            r.call(t -> t.tell(unknown, 3, 1));
            r.call(t -> t.tell(unknown, 3 << 14, 8));
        }
        r.refused(OUTSIDE);
    }

    private static void promise12_unknown() {
        RefusalsTest r = new RefusalsTest("x=a");
        for (int u : NO_FOUR) {
            r.call(t -> t.sure(u, 0));
            r.call(t -> t.sure(u, 8));
        }
        r.refused(UNKNOWN);
    }

    private static void promise12_outside() {
        RefusalsTest r = new RefusalsTest("x=a");
        for (int place : new int[] {Due.LEAST, -1, 8, Due.MOST}) r.call(t -> t.sure(1, place));
        r.refused(OUTSIDE);
    }

    // ---- chains

    /** All calls of promises 13 to 17 for an equation. */
    private void chase(int e) {
        call(t -> t.met(e));
        call(t -> t.fewest(e));
        call(t -> t.ring(e));
        call(t -> t.putting(e, 0));
        call(t -> t.found(e, 0, -1));
        call(t -> t.found(e, 3, 0));
    }

    private static void promise13_unknown() {
        RefusalsTest r = new RefusalsTest("x=a");
        for (int e : NO_FOUR) {
            r.chase(e);
            r.call(t -> t.putting(e, -1));
            r.call(t -> t.found(e, 4, -2));
        }
        for (int u : NO_FOUR) {
            // an equation that may be chased, one that is spent, one that may not be chased
            for (int e = 0; e < 3; e++) {
                int equation = e;
                r.call(t -> t.found(equation, u, -2));
            }
        }
        r.refused(UNKNOWN);
    }

    private static void promise13_outside() {
        RefusalsTest r = new RefusalsTest("x=a");
        for (int e = 0; e < 4; e++) {
            int equation = e;
            for (int i : BELOW) r.call(t -> t.putting(equation, i));
            for (int k : new int[] {Due.LEAST, -2}) r.call(t -> t.found(equation, 0, k));
        }
        r.refused(OUTSIDE);
    }

    private static void promise13_not() {
        RefusalsTest r = new RefusalsTest("x=a");
        r.chase(2);
        r.refused(NOT);
    }

    private static void promise13_spent() {
        RefusalsTest r = new RefusalsTest("x=a");
        r.chase(1);
        r.refused(SPENT);
    }

    // ---- words

    private static void promise18_unknown() {
        RefusalsTest r = new RefusalsTest("x=a");
        for (int i : NO_FOUR) {
            r.call(t -> t.word(i, 0, 3));
            r.call(t -> t.word(i, 3, 31));
        }
        r.refused(UNKNOWN);
    }

    private static void promise18_outside() {
        RefusalsTest r = new RefusalsTest("x=a");
        for (int i = 0; i < 4; i++) {
            int word = i;
            for (int n : new int[] {Due.LEAST, -1, 31, Due.MOST}) r.call(t -> t.word(word, 0, n));
            r.call(t -> t.word(word, 3, 1));
            r.call(t -> t.word(word, 3L << 58, 30));
        }
        r.refused(OUTSIDE);
    }

    private static void promise19_unknown() {
        RefusalsTest r = new RefusalsTest("x=a");
        for (int i : NO_FOUR) {
            r.call(t -> t.of(i, 0));
            r.call(t -> t.of(i, 7));
            r.call(t -> t.part(i, 0));
            r.call(t -> t.part(i, -1));
            r.call(t -> t.agree(i, 0));
            r.call(t -> t.agree(0, i));
            r.call(t -> t.turned(i, 0));
            r.call(t -> t.turned(0, i));
        }
        r.refused(UNKNOWN);
    }

    private static void promise19_outside() {
        RefusalsTest r = new RefusalsTest("x=a");
        for (int what : new int[] {Due.LEAST, -1, 7, Due.MOST}) r.call(t -> t.of(0, what));
        for (int k : BELOW) r.call(t -> t.part(0, k));
        r.refused(OUTSIDE);
    }

    private static void promise23_outside() {
        RefusalsTest r = new RefusalsTest("x=a");
        int[][] outside = {{0, 1, 1, 0}, {61, 1, 1, 0}, {1, 0, 1, 0}, {1, 61, 1, 0}, {1, 1, 0, -1}, {1, 1, 61, 0}, {1, 1, 5, 5},
            {1, 1, 5, -2}, {Due.LEAST, 1, 5, 0}, {1, Due.MOST, 5, 0}, {1, 1, Due.MOST, 0}, {1, 1, 5, Due.MOST}, {1, 1, 5, Due.LEAST}};
        for (int[] o : outside) r.call(t -> t.classes(o[0], o[1], o[2], o[3]));
        r.refused(OUTSIDE);
    }

    // ---- patterns

    private static void promise24_unknown() {
        for (String text : new String[] {"xa", "", "x=a"}) {
            RefusalsTest r = new RefusalsTest(text);
            for (int i : NO_FOUR) r.call(t -> t.pattern(i));
            r.refused(UNKNOWN);
        }
    }

    private static void promise24_not() {
        for (String text : new String[] {"", "  ", "x=a", "x;", "xd", "abcabcabcabca", "X"}) {
            RefusalsTest r = new RefusalsTest(text);
            for (int i = 0; i < 4; i++) {
                int pattern = i;
                r.call(t -> t.pattern(pattern));
            }
            r.refused(NOT);
        }
    }

    private static void promise25_unknown() {
        RefusalsTest r = new RefusalsTest("x=a");
        for (int i : NO_FOUR) {
            r.call(t -> t.makes(i, 0));
            r.call(t -> t.makes(0, i));
            r.call(t -> t.makes(2, i));
            r.call(t -> t.carries(i, 0));
            r.call(t -> t.carries(0, i));
            r.call(t -> t.carries(2, i));
            r.call(t -> t.carries(i, 2));
        }
        r.refused(UNKNOWN);
    }

    private static void promise25_not() {
        RefusalsTest r = new RefusalsTest("x=a");
        for (int i = 0; i < 4; i++) {
            int other = i;
            r.call(t -> t.makes(2, other));
            r.call(t -> t.carries(2, other));
            r.call(t -> t.carries(other, 2));
        }
        r.refused(NOT);
    }

    private static void promise27_outside() {
        RefusalsTest r = new RefusalsTest("x=a");
        for (int n : new int[] {Due.LEAST, -1, 0, 9, Due.MOST}) r.call(t -> t.sample(0, n));
        r.call(t -> t.sample(3, 1));
        r.call(t -> t.sample(3 << 14, 8));
        r.refused(OUTSIDE);
    }

    private static void promise27_full() {
        RefusalsTest r = new RefusalsTest("x=a");
        for (int n = 1; n <= 8; n++) {
            int letters = n;
            r.call(t -> t.sample(2, letters));
        }
        r.refused(FULL);
    }

    private static void promise29_outside() {
        RefusalsTest r = new RefusalsTest("x=a");
        for (int k : new int[] {Due.LEAST, -2}) r.call(t -> t.common(k));
        r.refused(OUTSIDE);
    }

    private static void promise29_not() {
        TwoSides t = State.full("x=a"), other = State.full("x=a");
        t.clear();
        other.clear();
        for (int k = -1; k < 9; k++) Due.be("common " + k, t.common(k), NOT);
        Due.same("all else", State.told(t), State.told(other));
    }

    private static void promise30_outside() {
        RefusalsTest r = new RefusalsTest("x=a");
        for (int what : new int[] {Due.LEAST, -1, 5, Due.MOST}) r.call(t -> t.count(what));
        r.refused(OUTSIDE);
    }

    // ---- what only asks

    /** Calls that only ask, each answered as often as it is asked, change nothing either. */
    private static void promise01_askingChangesNothing() {
        RefusalsTest r = new RefusalsTest("x=a");
        r.call(TwoSides::fault);
        r.call(TwoSides::answers);
        r.call(TwoSides::rank);
        for (int n = 0; n < 5; n++) {
            int k = n;
            r.call(t -> t.item(k % 4, k % 2, k));
            r.call(t -> t.answer(9 * k, k % 4, k - 1));
            r.call(t -> t.sure(k % 4, k));
            r.call(t -> t.of(k % 4, k));
            r.call(t -> t.part(k % 4, k));
            r.call(t -> t.agree(k % 4, 0));
            r.call(t -> t.turned(1, k % 4));
            r.call(t -> t.classes(7, 5 + k, 20 + k, k));
            r.call(t -> t.makes(k % 4, 3));
            r.call(t -> t.carries(0, k % 4));
            r.call(t -> t.common(k - 1));
            r.call(t -> t.count(k));
        }
        for (int e = 0; e < 4; e++) r.chase(e);
        for (int i = 0; i < r.calls.size(); i++) {
            TwoSides t = State.full(r.text);
            int first = r.calls.get(i).applyAsInt(t);
            for (int n = 0; n < 3; n++) Due.be("call " + i + " again", r.calls.get(i).applyAsInt(t), first);
            Due.same("all after call " + i, State.told(t), r.before);
        }
    }
}
