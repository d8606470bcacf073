import java.lang.reflect.InvocationTargetException;
import java.lang.reflect.Method;
import java.util.Map;
import java.util.TreeMap;
import java.util.function.IntUnaryOperator;

/** Counts what is not as due, and ends a test. */
final class Due {
    static final int LEAST = Integer.MIN_VALUE, MOST = Integer.MAX_VALUE;
    /** Numbers that none of four has. */
    static final int[] NO_FOUR = {LEAST, -1, 4, MOST};
    private static long asked = 0;
    private static int wrong = 0;
    private static String test = "";

    private Due() { }

    static void be(String what, long got, long want) {
        asked++;
        if (got != want) fail(what + " answered " + got + ", due is " + want);
    }

    /** Each of some numbers as an argument is answered alike. */
    static void each(String what, int[] numbers, IntUnaryOperator call, int want) {
        for (int n : numbers) be(what + " " + n, call.applyAsInt(n), want);
    }

    private static void fail(String what) {
        wrong++;
        if (wrong <= 50) System.out.println(test + what);
    }

    /** Runs every test of a class by itself: a method without parameters, named after its promise and sentence. */
    static void all(Class<?> tests) throws IllegalAccessException {
        Map<String, Method> named = new TreeMap<>();
        for (Method m : tests.getDeclaredMethods()) {
            if (m.getName().matches("(promise|terms)\\d\\d_\\w+")) named.put(m.getName(), m);
        }
        for (Map.Entry<String, Method> one : named.entrySet()) {
            test = one.getKey() + ": ";
            long before = asked;
            one.getValue().setAccessible(true);
            try {
                one.getValue().invoke(null);
            } catch (InvocationTargetException e) {
                fail("ended by " + e.getCause());
            }
            if (asked == before) fail("asked nothing");
        }
        test = "";
        System.out.println(named.size() + " tests");
        end();
    }

    static void hold(String what, boolean holds) {
        be(what, holds ? 1 : 0, 1);
    }

    static void end() {
        System.out.println(asked + " asked, " + wrong + " not as due");
        if (wrong != 0 || asked == 0) System.exit(1);
    }

    /** Writes a text behind what stands, in eights. */
    static void write(TwoSides t, String text) {
        for (int i = 0; i < text.length(); i += 8) {
            int n = Math.min(8, text.length() - i);
            t.write(bytes(text.substring(i, i + n)), n);
        }
    }

    static long bytes(String text) {
        long bytes = 0;
        for (int i = 0; i < text.length(); i++) bytes |= (long) (text.charAt(i) & 255) << 8 * i;
        return bytes;
    }

    static TwoSides with(String equations) {
        TwoSides t = new TwoSides();
        write(t, equations);
        t.take();
        return t;
    }

    /** A side of an equation as a text. */
    static String side(TwoSides t, int equation, int side) {
        StringBuilder told = new StringBuilder();
        for (int i = 0; i < 13; i++) {
            int item = t.item(equation, side, i);
            if (item < 0) break;
            told.append(item > 7 ? '?' : "abc?wxyz".charAt(item));
        }
        return told.toString();
    }

    /** A word of letters a, b, c as a number. */
    static long word(String letters) {
        long word = 0;
        for (int i = 0; i < letters.length(); i++) word |= (long) (letters.charAt(i) - 'a') << 2 * i;
        return word;
    }

    static int tell(TwoSides t, int unknown, String letters) {
        return t.tell(unknown, (int) word(letters), letters.length());
    }

    static int desk(TwoSides t, int i, String letters) {
        return t.word(i, word(letters), letters.length());
    }

    static int sample(TwoSides t, String letters) {
        return t.sample((int) word(letters), letters.length());
    }

    static int pattern(TwoSides t, int i, String items) {
        t.erase();
        write(t, items);
        return t.pattern(i);
    }

    /** An answer as four words with commas between; "none". */
    static String answer(TwoSides t, int i) {
        StringBuilder told = new StringBuilder();
        for (int u = 0; u < 4; u++) {
            int n = t.answer(i, u, -1);
            if (n < 0) return "none";
            if (u > 0) told.append(',');
            for (int k = 0; k < n; k++) told.append((char) ('a' + t.answer(i, u, k)));
            be("answer " + i + " behind its end", t.answer(i, u, n), TwoSides.NONE);
        }
        return told.toString();
    }

    static String found(TwoSides t, int equation, int unknown) {
        int n = t.found(equation, unknown, -1);
        if (n < 0) return "none";
        StringBuilder told = new StringBuilder();
        for (int k = 0; k < n; k++) told.append((char) ('a' + t.found(equation, unknown, k)));
        be("found behind its end", t.found(equation, unknown, n), TwoSides.NONE);
        return told.toString();
    }

    static String common(TwoSides t) {
        StringBuilder told = new StringBuilder();
        int n = t.common(-1);
        for (int k = 0; k < n; k++) told.append("abc??x".charAt(t.common(k)));
        be("common behind its end", t.common(Math.max(n, 0)), TwoSides.NONE);
        return told.toString();
    }

    static void same(String what, String got, String want) {
        asked++;
        if (!got.equals(want)) fail(what + " answered " + got + ", due is " + want);
    }
}
