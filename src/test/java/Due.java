/** Counts what is not as due, and ends a test. */
final class Due {
    private static long asked = 0;
    private static int wrong = 0;

    private Due() { }

    static void be(String what, long got, long want) {
        asked++;
        if (got == want) return;
        wrong++;
        if (wrong <= 50) System.out.println(what + " answered " + got + ", due is " + want);
    }

    static void hold(String what, boolean holds) {
        be(what, holds ? 1 : 0, 1);
    }

    static void end() {
        System.out.println(asked + " asked, " + wrong + " not as due");
        if (wrong != 0 || asked == 0) System.exit(1);
    }

    /** Writes a text behind what stands, in eights. */
    static void write(TwoSides t, String text) {
        for (int i = 0; i < text.length(); i += 8) {
            int n = Math.min(8, text.length() - i);
            t.write(bytes(text.substring(i, i + n)), n);
        }
    }

    static long bytes(String text) {
        long bytes = 0;
        for (int i = 0; i < text.length(); i++) bytes |= (long) (text.charAt(i) & 255) << 8 * i;
        return bytes;
    }

    static TwoSides with(String equations) {
        TwoSides t = new TwoSides();
        write(t, equations);
        t.take();
        return t;
    }

    /** A word of letters a, b, c as a number. */
    static long word(String letters) {
        long word = 0;
        for (int i = 0; i < letters.length(); i++) word |= (long) (letters.charAt(i) - 'a') << 2 * i;
        return word;
    }

    static int tell(TwoSides t, int unknown, String letters) {
        return t.tell(unknown, (int) word(letters), letters.length());
    }

    static int desk(TwoSides t, int i, String letters) {
        return t.word(i, word(letters), letters.length());
    }

    static int sample(TwoSides t, String letters) {
        return t.sample((int) word(letters), letters.length());
    }

    static int pattern(TwoSides t, int i, String items) {
        t.erase();
        write(t, items);
        return t.pattern(i);
    }

    /** An answer as four words with commas between; "none". */
    static String answer(TwoSides t, int i) {
        StringBuilder told = new StringBuilder();
        for (int u = 0; u < 4; u++) {
            int n = t.answer(i, u, -1);
            if (n < 0) return "none";
            if (u > 0) told.append(',');
            for (int k = 0; k < n; k++) told.append((char) ('a' + t.answer(i, u, k)));
            be("answer " + i + " behind its end", t.answer(i, u, n), TwoSides.NONE);
        }
        return told.toString();
    }

    static String found(TwoSides t, int equation, int unknown) {
        int n = t.found(equation, unknown, -1);
        if (n < 0) return "none";
        StringBuilder told = new StringBuilder();
        for (int k = 0; k < n; k++) told.append((char) ('a' + t.found(equation, unknown, k)));
        be("found behind its end", t.found(equation, unknown, n), TwoSides.NONE);
        return told.toString();
    }

    static String common(TwoSides t) {
        StringBuilder told = new StringBuilder();
        int n = t.common(-1);
        for (int k = 0; k < n; k++) told.append("abc??x".charAt(t.common(k)));
        be("common behind its end", t.common(Math.max(n, 0)), TwoSides.NONE);
        return told.toString();
    }

    static void same(String what, String got, String want) {
        asked++;
        if (got.equals(want)) return;
        wrong++;
        System.out.println(what + " answered " + got + ", due is " + want);
    }
}
