/** Each promise by itself: ordinary inputs, its edges, and what is refused, by which nothing changes. */
public final class PromisesTest {
    private static final int NONE = TwoSides.NONE, UNKNOWN = TwoSides.UNKNOWN, OUTSIDE = TwoSides.OUTSIDE, NOT = TwoSides.NOT,
        FULL = TwoSides.FULL, SPENT = TwoSides.SPENT, MANY = TwoSides.MANY;
    private static final int LEAST = Integer.MIN_VALUE, MOST = Integer.MAX_VALUE;
    private static final int[] NO_FOUR = {LEAST, -1, 4, MOST};

    private PromisesTest() { }

    public static void main(String[] args) {
        promise1();
        promises2And3();
        promise4();
        promises5And6();
        promise7();
        promise8();
        promise9();
        promises10And11();
        promise12();
        promises13To15();
        promises16And17();
        promise18();
        promise19();
        promise20();
        promises21And22();
        promise23();
        promise24();
        promise25();
        promise26();
        promises27And28();
        promise29();
        promise30();
        Due.end();
    }

    private static void promise1() {
        TwoSides t = new TwoSides();
        for (int what = 0; what < 5; what++) Due.be("1: count " + what, t.count(what), 0);
        Due.be("1: answers", t.answers(), 1);
        Due.same("1: the answer", Due.answer(t, 0), ",,,");
        Due.be("1: rank", t.rank(), 0);
        for (int i = 0; i < 4; i++) {
            Due.be("1: no equation", t.met(i), UNKNOWN);
            Due.be("1: no letters", t.of(i, 0), 0);
            Due.be("1: no pattern", t.makes(i, 0), NOT);
        }
        Due.be("1: no samples", t.common(-1), NOT);
        Due.be("1: a text that comes too soon", t.fault(), 0);
        int[] constants = {NONE, UNKNOWN, OUTSIDE, NOT, FULL, SPENT, MANY};
        int[] due = {-1, -2, -3, -4, -5, -6, 1000000001};
        for (int i = 0; i < due.length; i++) Due.be("a constant", constants[i], due[i]);
    }

    private static void promises2And3() {
        TwoSides t = new TwoSides();
        Due.be("2: two of many bytes", t.write(Due.bytes("x=wwwwww"), 2), 2);
        Due.be("2: n 0", t.write(0, 0), OUTSIDE);
        Due.be("2: n 9", t.write(0, 9), OUTSIDE);
        Due.be("2: n below", t.write(0, LEAST), OUTSIDE);
        Due.be("2: n above", t.write(0, MOST), OUTSIDE);
        Due.be("2: nothing changed", t.count(1), 2);
        Due.be("2: no fault", t.fault(), NONE);
        Due.be("3: erase", t.erase(), 2);
        Due.be("3: erase again", t.erase(), 0);
        Due.be("3: empty", t.fault(), 0);
        for (int i = 1; i <= 12; i++) Due.be("2: eights", t.write(Due.bytes("        "), 8), 8 * i);
        Due.be("2: 97 to 101", t.write(0, 5), FULL);
        Due.be("2: n ahead of full", t.write(0, 9), OUTSIDE);
        Due.be("2: still 96", t.count(1), 96);
        Due.be("2: 100", t.write(Due.bytes("x=ab"), 4), 100);
        Due.be("2: 101", t.write(0, 1), FULL);
        Due.be("2: all blank but four", t.fault(), NONE);
        Due.be("5: taken", t.take(), 1);
        Due.be("5: empty", t.count(1), 0);
        Due.be("2: bytes above 127", t.write(-1L, 8), 8);
        Due.be("4: at once", t.fault(), 0);
        Due.be("3: erased", t.erase(), 8);
        Due.be("2: byte 7 of eight", t.write(Due.bytes("x=aaaaa~"), 8), 8);
        Due.be("4: byte 7", t.fault(), 7);
    }

    private static void fault(String text, int due) {
        TwoSides t = new TwoSides();
        Due.write(t, text);
        Due.be("4: fault of " + text, t.fault(), due);
        Due.be("4: asked again", t.fault(), due);
        Due.be("4: the text stands", t.count(1), text.length());
        Due.be("5: take of " + text, t.take(), due == NONE ? text.chars().filter(c -> c == ';').count() + 1 : NOT);
        Due.be("5: the text behind that", t.count(1), due == NONE ? 0 : text.length());
    }

    private static void promise4() {
        fault("", 0);
        fault("   ", 3);
        fault("=", NONE);
        fault(" = ", NONE);
        fault("x", 1);
        fault("x ", 2);
        fault("x=", NONE);
        fault("=x;", 3);
        fault("=x; ;", 4);
        fault(";", 0);
        fault("x=y=", 3);
        fault("x=y;z", 5);
        fault("d=", 0);
        fault("v=", 0);
        fault("A=", 0);
        fault("x={", 2);
        fault("x=\t", 2);
        fault("abcabcabcabc=wxyzwxyzwxyz", NONE);
        fault("abcabcabcabca=", 12);
        fault("abcabc abcabc  a=", 15);
        fault("=wxyzwxyzwxyzw", 13);
        fault("abcabcabcabc=wxyzwxyzwxyz;abcabcabcabc=wxyzwxyzwxyzc", 51);
        fault("=;=;=;=", NONE);
        fault("=;=;=;=;", 7);
        fault("=;=;=;", 6);
        fault("=;=;=;=x;", 8);
    }

    private static void promises5And6() {
        TwoSides t = Due.with("xa = b c; = wz;y=");
        Due.be("5: three", t.count(0), 3);
        String[][] due = {{"xa", "bc"}, {"", "wz"}, {"y", ""}};
        for (int e = 0; e < 3; e++) for (int s = 0; s < 2; s++) for (int i = 0; i < 3; i++) {
            int want = i < due[e][s].length() ? "abc.wxyz".indexOf(due[e][s].charAt(i)) : NONE;
            Due.be("6: item " + e + " " + s + " " + i, t.item(e, s, i), want);
        }
        Due.be("6: far", t.item(0, 0, MOST), NONE);
        for (int e : new int[] {LEAST, -1, 3, 4, MOST}) Due.be("6: equation " + e, t.item(e, 2, -1), UNKNOWN);
        for (int s : new int[] {LEAST, -1, 2, MOST}) Due.be("6: side " + s, t.item(0, s, 0), OUTSIDE);
        Due.be("6: i below 0", t.item(0, 0, -1), OUTSIDE);
        Due.write(t, "x=a=");
        Due.be("5: a fault", t.take(), NOT);
        Due.be("5: the equations stand", t.item(1, 1, 1), 7);
        t.erase();
        Due.write(t, "=c");
        Due.be("5: one, not more", t.take(), 1);
        Due.be("6: a new side", t.item(0, 0, 0), NONE);
        Due.be("6: no second", t.item(1, 0, 0), UNKNOWN);
        TwoSides full = Due.with("wxyzabcabcab=bacbacbazyxw");
        Due.be("6: the twelfth", full.item(0, 1, 11), 4);
        Due.be("6: behind it", full.item(0, 1, 12), NONE);
    }

    private static void promise7() {
        TwoSides t = Due.with("x=x");
        Due.be("7: 0 to 4 at first", t.answers(), 1 + 3 + 9 + 27 + 81);
        Due.be("7: bounds", t.bounds(1, 1, 2, 5), 1);
        Due.be("7: 1 to 2 of a, c", t.answers(), 2 + 4);
        for (int u : NO_FOUR) Due.be("7: unknown " + u, t.bounds(u, 9, 0, 9), UNKNOWN);
        int[][] outside = {{-1, 2, 7}, {0, 9, 7}, {3, 2, 7}, {0, 2, 8}, {0, 2, -1}, {LEAST, 2, 7}, {0, MOST, 7}, {0, 1, LEAST}, {9, 9, 1}};
        for (int[] b : outside) Due.be("7: outside", t.bounds(1, b[0], b[1], b[2]), OUTSIDE);
        Due.be("7: nothing changed", t.answers(), 2 + 4);
        Due.be("7: no letters may be", t.bounds(1, 0, 8, 0), 1);
        Due.be("7: none alone", t.answers(), 1);
        Due.be("7: some length", t.bounds(1, 1, 8, 0), 1);
        Due.be("7: nothing fits", t.answers(), 0);
        Due.be("7: to 8", t.bounds(1, 0, 8, 7), 1);
        Due.be("7: all to 8", t.answers(), 9841);
        Due.be("7: an unknown in none is put no letters", t.bounds(0, 0, 8, 7), 1);
        Due.be("7: so it changes nothing", t.answers(), 9841);
        Due.be("7: but its bounds hold", t.bounds(3, 1, 8, 7), 1);
        Due.be("7: so there are none", t.answers(), 0);
        t.bounds(3, 0, 0, 0);
        Due.be("7: again", t.answers(), 9841);
        Due.write(t, "x=z");
        t.take();
        Due.be("7: they outlast the equations", t.answers(), 1);
    }

    private static void promise8() {
        TwoSides t = Due.with("wx=wx;yz=yz");
        for (int u = 0; u < 4; u++) t.bounds(u, 0, 8, 7);
        Due.be("8: all is many", t.answers(), MANY);
        for (int u = 0; u < 4; u++) t.bounds(u, 8, 8, 3);
        t.bounds(3, 6, 6, 3);
        Due.be("8: 2 to the 30", t.answers(), MANY);
        t.bounds(3, 5, 5, 3);
        Due.be("8: 2 to the 29", t.answers(), 1 << 29);
        // 9841 words of 0 to 8 letters and 3280 of 0 to 7
        t = Due.with("wx=wx");
        t.bounds(0, 0, 8, 7);
        t.bounds(1, 0, 7, 7);
        Due.be("8: a product", t.answers(), 9841 * 3280);
        t = Due.with("wxyz=abcabcab");
        Due.be("8: by four parts of 0 to 4 each", t.answers(), 85);
        t = Due.with("xyx=yxy");
        Due.be("8: words alike", t.answers(), 121);
        Due.be("8: letters that differ", Due.with("a=b").answers(), 0);
        Due.be("8: letters alike", Due.with("abc=abc").answers(), 1);
        t = Due.with("x=y");
        t.bounds(1, 0, 4, 3);
        t.bounds(2, 0, 4, 6);
        Due.be("8: both may be b alone", t.answers(), 5);
    }

    private static void promise9() {
        TwoSides t = Due.with("wxab=abyz");
        String before = "";
        int many = t.answers();
        for (int i = 0; i < many; i += 7) {
            String now = Due.answer(t, i);
            String[] w = now.split(",", -1);
            Due.hold("9: it solves", (w[0] + w[1] + "ab").equals("ab" + w[2] + w[3]));
            if (i > 0) Due.hold("9: in order " + before + " " + now, isAhead(before.split(",", -1), w));
            before = now;
        }
        Due.be("9: behind the last", t.answer(many, 0, -1), NONE);
        Due.be("9: behind the last, a letter", t.answer(many, 0, 0), NONE);
        for (int u : NO_FOUR) Due.be("9: unknown " + u, t.answer(-1, u, -2), UNKNOWN);
        Due.be("9: i below", t.answer(-1, 0, 0), OUTSIDE);
        Due.be("9: i above", t.answer(1000000000, 0, 0), OUTSIDE);
        Due.be("9: i at most", t.answer(999999999, 0, 0), NONE);
        Due.be("9: k below", t.answer(0, 0, -2), OUTSIDE);
        Due.be("9: k far", t.answer(0, 0, MOST), NONE);
        t = Due.with("wxy=wxy");
        for (int u = 0; u < 3; u++) t.bounds(u, 8, 8, 7);
        for (int i : new int[] {0, 1, 3, 6561, 43046721, 123456789, 999999999}) {
            StringBuilder due = new StringBuilder();
            for (int k = 0, rest = i; k < 24; k++, rest /= 3) due.insert(0, (char) ('a' + rest % 3));
            due.insert(16, ',').insert(8, ',').append(',');
            Due.same("9: by threes, answer " + i, Due.answer(t, i), due.toString());
        }
    }

    private static boolean isAhead(String[] a, String[] b) {
        int unlike = String.join("", a).length() - String.join("", b).length();
        for (int u = 0; u < 4 && unlike == 0; u++) unlike = a[u].length() - b[u].length();
        for (int u = 0; u < 4 && unlike == 0; u++) unlike = a[u].compareTo(b[u]);
        return unlike < 0;
    }

    private static void promises10And11() {
        TwoSides t = Due.with("ax=ya");
        Due.be("10: told", Due.tell(t, 1, "aaa"), 1);
        Due.be("11: one alone is none", t.rank(), NONE);
        Due.be("10: told", Due.tell(t, 2, "aaa"), 1);
        Due.be("11: rank", Due.with("ax=ya").rank(), 0);
        int rank = t.rank();
        Due.same("11: that answer", Due.answer(t, rank), ",aaa,aaa,");
        for (int u : NO_FOUR) Due.be("10: unknown " + u, t.tell(u, 3, 9), UNKNOWN);
        Due.be("10: n below", t.tell(1, 0, -1), OUTSIDE);
        Due.be("10: n above", t.tell(1, 0, 9), OUTSIDE);
        Due.be("10: a letter 3", t.tell(1, 3 << 4, 3), OUTSIDE);
        Due.be("11: nothing changed", t.rank(), rank);
        Due.be("10: bits behind its end", t.tell(1, -1 << 6, 3), 1);
        Due.be("11: still it", t.rank(), rank);
        Due.be("10: a fourth letter 3", t.tell(1, -1 << 6, 4), OUTSIDE);
        Due.be("10: of an unknown in none", Due.tell(t, 0, "a"), 1);
        Due.be("11: which has no letters", t.rank(), NONE);
        t.tell(0, 0, 0);
        Due.be("11: again", t.rank(), rank);
        t.bounds(1, 0, 2, 7);
        Due.be("11: out of bounds", t.rank(), NONE);
        t.bounds(1, 0, 4, 6);
        Due.be("11: letters out of bounds", t.rank(), NONE);
        t = Due.with("wxyz=wxyz");
        for (int u = 0; u < 4; u++) t.bounds(u, 8, 8, 7);
        for (int i : new int[] {0, 17, 999999999, 1000000000, 1000000001, 1000000002, 2000000000, MOST}) {
            tellNumber(t, i);
            Due.be("11: rank " + i, t.rank(), Math.min(i, MANY));
        }
        for (int u = 0; u < 4; u++) Due.tell(t, u, "cccccccc");
        Due.be("11: the last of all", t.rank(), MANY);
        for (int u = 0; u < 4; u++) t.bounds(u, 0, 8, 7);
        Due.be("11: the last of all", t.rank(), MANY);
    }

    private static void tellNumber(TwoSides t, int i) {
        StringBuilder word = new StringBuilder();
        for (int k = 0, rest = i; k < 32; k++, rest /= 3) word.insert(0, (char) ('a' + rest % 3));
        for (int u = 0; u < 4; u++) Due.tell(t, u, word.substring(8 * u, 8 * u + 8));
    }

    private static void promise12() {
        TwoSides t = Due.with("xa=ax");
        t.bounds(1, 2, 4, 7);
        Due.be("12: sure", t.sure(1, 0), 0);
        Due.be("12: sure", t.sure(1, 1), 0);
        Due.be("12: not all are longer", t.sure(1, 2), NONE);
        Due.be("12: no letters", t.sure(0, 0), NONE);
        for (int u : NO_FOUR) Due.be("12: unknown " + u, t.sure(u, -1), UNKNOWN);
        for (int p : new int[] {LEAST, -1, 8, MOST}) Due.be("12: place " + p, t.sure(1, p), OUTSIDE);
        t.bounds(1, 8, 8, 7);
        Due.be("12: the last place", t.sure(1, 7), 0);
        t.bounds(1, 2, 2, 6);
        Due.be("12: there are no answers", t.answers(), 0);
        Due.be("12: so none is sure", t.sure(1, 0), NONE);
        t = Due.with("xy=abcab");
        t.bounds(1, 3, 4, 7);
        Due.be("12: by two lengths", t.sure(1, 2), 2);
        Due.be("12: by two lengths", t.sure(1, 3), NONE);
        Due.be("12: by two lengths, unlike", t.sure(2, 0), NONE);
        t = Due.with("x=x");
        t.bounds(1, 2, 3, 4);
        Due.be("12: by the letters that may be", t.sure(1, 1), 2);
        t.bounds(1, 2, 3, 5);
        Due.be("12: two may be", t.sure(1, 1), NONE);
    }

    private static void chain(String equation, int met, int fewest, int ring) {
        TwoSides t = Due.with(equation);
        Due.be("13: met of " + equation, t.met(0), met);
        Due.be("14: fewest of " + equation, t.fewest(0), fewest);
        Due.be("15: ring of " + equation, t.ring(0), ring);
    }

    private static void promises13To15() {
        chain("=", 1, 0, 0);
        chain("ab=ab", 1, 0, 0);
        chain("a=b", 1, NONE, NONE);
        chain("=a", 1, NONE, NONE);
        chain("x=", 2, 1, 0);
        chain("=x", 2, 1, 0);
        chain("x=x", 1, 0, 2);
        chain("x=a", 4, 2, 0);
        chain("a=x", 4, 2, 0);
        chain("x=ab", 6, 3, 0);
        chain("xa=ax", 2, 1, 1);
        chain("xa=bx", 2, NONE, NONE);
        chain("x=w", 4, 2, 2);
        chain("xy=yx", 2, 1, 2);
        chain("wab=baw", 4, 2, 1);
        chain("xaby=ybax", 15, 3, 1);
        chain("yyxaaaa=waaaaxwazaa", 1500, 6, 2);
        chain("awwaaaaaayaa=xaxzaaaz", SPENT, SPENT, SPENT);
        chain("xxx=aab", NOT, NOT, NOT);
        chain("xx=x", NOT, NOT, NOT);
        chain("xyz=xwxaab", NOT, NOT, NOT);
        TwoSides t = Due.with("x=a;xxx=;=x");
        for (int e : new int[] {LEAST, -1, 3, 4, MOST}) {
            Due.be("13: equation " + e, t.met(e), UNKNOWN);
            Due.be("14: equation " + e, t.fewest(e), UNKNOWN);
            Due.be("15: equation " + e, t.ring(e), UNKNOWN);
        }
        Due.be("13: each by itself", t.met(0), 4);
        Due.be("13: each by itself", t.met(1), NOT);
        Due.be("13: each by itself", t.met(2), 2);
        Due.be("13: again", t.met(0), 4);
        Due.write(t, "x=ab");
        t.take();
        Due.be("13: taken anew", t.met(0), 6);
        t.bounds(1, 0, 0, 0);
        Due.be("14: whatever the bounds", t.fewest(0), 3);
    }

    private static void promises16And17() {
        TwoSides t = Due.with("wab=baw");
        Due.be("16: w is put bw", t.putting(0, 0), 1);
        Due.be("16: w is put nothing", t.putting(0, 1), 0);
        Due.be("16: no third", t.putting(0, 2), NONE);
        Due.be("16: far", t.putting(0, MOST), NONE);
        Due.be("16: below", t.putting(0, -1), OUTSIDE);
        Due.be("16: equation", t.putting(1, -1), UNKNOWN);
        Due.same("17: by it", Due.found(t, 0, 0), "b");
        Due.same("17: of another", Due.found(t, 0, 3), "");
        Due.be("17: k below", t.found(0, 0, -2), OUTSIDE);
        Due.be("17: k far", t.found(0, 0, MOST), NONE);
        Due.be("17: equation", t.found(1, 0, -2), UNKNOWN);
        for (int u : NO_FOUR) Due.be("17: unknown " + u, t.found(0, u, -2), UNKNOWN);
        t = Due.with("xxx=;a=b;awwaaaaaayaa=xaxzaaaz");
        Due.be("16: more than twice", t.putting(0, 0), NOT);
        Due.be("16: below ahead of that", t.putting(0, -1), OUTSIDE);
        Due.be("17: more than twice", t.found(0, 1, -1), NOT);
        Due.be("17: below ahead of that", t.found(0, 1, -2), OUTSIDE);
        Due.be("16: no answer", t.putting(1, 0), NONE);
        Due.be("17: no answer", t.found(1, 1, -1), NONE);
        Due.be("16: too many", t.putting(2, 0), SPENT);
        Due.be("17: too many", t.found(2, 1, -1), SPENT);
        Due.be("17: too many, a letter", t.found(2, 1, 0), SPENT);
        String[] solvable = {"xaby=ybax", "wxyabc=abcyxw", "xxab=abyy", "accbbbczbz=xabbwyaabxaa", "wbywbaaacxay=acaaacccczbz", "x=yz"};
        for (String equation : solvable) solves(equation);
        // x=y is DONE by two puttings in four ways: the first one counts
        t = Due.with("x=y");
        Due.be("16: the first of several", t.putting(0, 0), 0);
        Due.be("16: then the other", t.putting(0, 1), 0);
        t = Due.with("xab=cay");
        Due.be("16: x is nothing: then there is no answer", t.putting(0, 0), 1);
    }

    private static void solves(String equation) {
        TwoSides t = Due.with(equation);
        String[] words = new String[4];
        for (int u = 0; u < 4; u++) words[u] = Due.found(t, 0, u);
        String[] sides = equation.split("=");
        Due.same("17: both sides of " + equation, Slow.put(sides[0], words), Slow.put(sides[1], words));
        int fewest = t.fewest(0);
        Due.hold("16: the last putting", t.putting(0, fewest - 1) >= 0);
        Due.be("16: behind it", t.putting(0, fewest), NONE);
    }

    private static void promise18() {
        TwoSides t = new TwoSides();
        Due.be("18: word", Due.desk(t, 3, "abcabc"), 1);
        Due.be("18: length", t.of(3, 0), 6);
        for (int i : NO_FOUR) Due.be("18: word " + i, t.word(i, 3, -1), UNKNOWN);
        for (int n : new int[] {LEAST, -1, 31, MOST}) Due.be("18: n " + n, t.word(3, 0, n), OUTSIDE);
        Due.be("18: a letter 3", t.word(3, 3L << 58, 30), OUTSIDE);
        Due.be("18: nothing changed", t.of(3, 1), 3);
        Due.be("18: bits behind its end", t.word(3, -1L << 58, 29), 1);
        Due.be("18: all a", t.of(3, 5), 1);
        Due.be("18: none", t.word(3, -1, 0), 1);
        Due.be("18: none", t.of(3, 0), 0);
        Due.be("18: 30", Due.desk(t, 0, "c".repeat(30)), 1);
        Due.be("18: 30", t.of(0, 0), 30);
    }

    private static void of(String word, int... due) {
        TwoSides t = new TwoSides();
        Due.desk(t, 2, word);
        for (int what = 0; what < 7; what++) Due.be("19: of " + word + " " + what, t.of(2, what), due[what]);
    }

    private static void promise19() {
        of("", 0, 0, 0, 0, 0, 0, 0);
        of("b", 1, 1, 0, 0, 1, 1, 1);
        of("abab", 4, 2, 2, 0, 2, 2, 2);
        of("ababa", 5, 5, 3, 4, 3, 2, 3);
        of("aaaaaa", 6, 1, 5, 0, 6, 1, 6);
        of("cba", 3, 3, 0, 2, 3, 3, 1);
        of("baabaa", 6, 3, 3, 1, 4, 3, 2);
        of("abcabcab", 8, 8, 5, 6, 3, 3, 3);
        of("a".repeat(29) + "b", 30, 30, 0, 0, 1, 30, 1);
        of("b" + "a".repeat(29), 30, 30, 0, 1, 30, 30, 1);
        TwoSides t = new TwoSides();
        for (int i : NO_FOUR) Due.be("19: word " + i, t.of(i, 9), UNKNOWN);
        for (int what : new int[] {LEAST, -1, 7, MOST}) Due.be("19: what " + what, t.of(0, what), OUTSIDE);
    }

    private static void promise20() {
        TwoSides t = new TwoSides();
        Due.be("20: of none", t.part(0, 0), NONE);
        Due.desk(t, 0, "bababaabaab");
        int[] due = {1, 2, 2, 3, 3};
        for (int k = 0; k < due.length; k++) Due.be("20: part " + k, t.part(0, k), due[k]);
        Due.be("20: behind the last", t.part(0, 5), NONE);
        Due.be("20: far", t.part(0, MOST), NONE);
        Due.be("20: k below", t.part(0, -1), OUTSIDE);
        for (int i : NO_FOUR) Due.be("20: word " + i, t.part(i, -1), UNKNOWN);
        Due.desk(t, 1, "c".repeat(30));
        Due.be("20: thirty parts", t.part(1, 29), 1);
        Due.be("20: no more", t.part(1, 30), NONE);
    }

    private static void promises21And22() {
        TwoSides t = new TwoSides();
        Due.be("21: none and none", t.agree(0, 1), 1);
        Due.be("22: none and none", t.turned(0, 1), 0);
        Due.desk(t, 0, "abab");
        Due.desk(t, 1, "ab");
        Due.desk(t, 2, "baba");
        Due.be("21: of one root", t.agree(0, 1), 1);
        Due.be("21: with itself", t.agree(0, 0), 1);
        Due.be("21: with none", t.agree(0, 3), 1);
        Due.be("21: turned", t.agree(0, 2), 0);
        Due.be("22: the least", t.turned(0, 2), 1);
        Due.be("22: itself", t.turned(0, 0), 0);
        Due.be("22: shorter", t.turned(0, 1), NONE);
        Due.be("22: none", t.turned(0, 3), NONE);
        Due.desk(t, 3, "abba");
        Due.be("22: no turn", t.turned(0, 3), NONE);
        Due.desk(t, 0, "aabc");
        Due.desk(t, 3, "caab");
        Due.be("22: the last turn", t.turned(0, 3), 3);
        Due.be("22: and back", t.turned(3, 0), 1);
        for (int i : NO_FOUR) {
            Due.be("21: word " + i, t.agree(i, 0), UNKNOWN);
            Due.be("21: word " + i, t.agree(0, i), UNKNOWN);
            Due.be("22: word " + i, t.turned(i, 0), UNKNOWN);
            Due.be("22: word " + i, t.turned(0, i), UNKNOWN);
        }
    }

    private static void promise23() {
        TwoSides t = new TwoSides();
        Due.be("23: one short of p + q - gcd", t.classes(4, 6, 7, -1), 3);
        Due.be("23: p + q - gcd", t.classes(4, 6, 8, -1), 2);
        Due.be("23: a period of n means nothing", t.classes(5, 5, 5, -1), 5);
        Due.be("23: more than n", t.classes(60, 2, 5, -1), 2);
        // 7 is with 0 by 7 and with 2 by 5
        int[] due = {0, 1, 0, 2, 3, 0, 1, 0};
        for (int i = 0; i < due.length; i++) {
            Due.be("23: by one period, place " + i, t.classes(3, 60, 8, i), i % 3);
            Due.be("23: by both, place " + i, t.classes(5, 7, 8, i), due[i]);
            Due.be("23: by both, the other way round, place " + i, t.classes(7, 5, 8, i), due[i]);
        }
        Due.be("23: sixty", t.classes(1, 60, 60, 59), 0);
        Due.be("23: sixty", t.classes(60, 60, 60, 59), 59);
        int[][] outside = {{0, 1, 1, 0}, {61, 1, 1, 0}, {1, 0, 1, 0}, {1, 61, 1, 0}, {1, 1, 0, -1}, {1, 1, 61, 0}, {1, 1, 5, 5},
            {1, 1, 5, -2}, {LEAST, 1, 5, 0}, {1, MOST, 5, 0}, {1, 1, MOST, 0}, {1, 1, 5, MOST}, {1, 1, 5, LEAST}};
        for (int[] o : outside) Due.be("23: outside", t.classes(o[0], o[1], o[2], o[3]), OUTSIDE);
    }

    private static void promise24() {
        TwoSides t = new TwoSides();
        Due.be("24: no items", t.pattern(0), NOT);
        Due.be("24: pattern", Due.pattern(t, 0, " x ax "), 3);
        Due.be("24: the text is empty", t.count(1), 0);
        String[] not = {"  ", "x=", "xd", "x;", "wxyzwxyzwxyzw", "X"};
        for (String s : not) {
            Due.be("24: not " + s, Due.pattern(t, 0, s), NOT);
            Due.be("24: the text stands", t.count(1), s.length());
            for (int i : NO_FOUR) Due.be("24: pattern " + i, t.pattern(i), UNKNOWN);
        }
        Due.desk(t, 0, "bab");
        Due.be("24: the pattern stands", t.makes(0, 0), 1);
        Due.be("24: twelve", Due.pattern(t, 0, "wxyz wxyz wxyz"), 12);
        Due.be("24: it is another one", t.makes(0, 0), 0);
        Due.be("24: another one of one item", Due.pattern(t, 0, "w"), 1);
        Due.be("24: which makes all", t.makes(0, 0), 1);
    }

    private static void makes(String pattern, String word, int due) {
        TwoSides t = new TwoSides();
        Due.pattern(t, 1, pattern);
        Due.desk(t, 2, word);
        Due.be("25: " + pattern + " makes " + word, t.makes(1, 2), due);
    }

    private static void promise25() {
        makes("abc", "abc", 1);
        makes("abc", "abb", 0);
        makes("abc", "abca", 0);
        makes("abc", "ab", 0);
        makes("x", "", 0);
        makes("x", "a", 1);
        makes("xy", "a", 0);
        makes("xy", "abab", 3);
        makes("xx", "abab", 1);
        makes("xx", "abba", 0);
        makes("xxyy", "aaaaaaaa", 3);
        makes("wxyz", "a".repeat(30), 29 * 28 * 27 / 6);
        makes("wxyz", "abcabcabcabcabcabcabcabcabcabc", 29 * 28 * 27 / 6);
        makes("zaxaz", "baababaab", 1);
        makes("wxwx", "abababab", 3);
        makes("wwwwwwwwwwww", "ab".repeat(12), 1);
        makes("xaybz", "aabb", 0);
        makes("xaybz", "cacbc", 1);
        TwoSides t = new TwoSides();
        Due.be("25: no items", t.makes(0, 0), NOT);
        for (int i : NO_FOUR) {
            Due.be("25: pattern " + i, t.makes(i, 0), UNKNOWN);
            Due.be("25: word " + i, t.makes(0, i), UNKNOWN);
        }
    }

    private static void carries(String one, String other, int due) {
        TwoSides t = new TwoSides();
        Due.pattern(t, 3, one);
        Due.pattern(t, 0, other);
        Due.be("26: " + one + " carries " + other, t.carries(3, 0), due);
    }

    private static void promise26() {
        carries("x", "wxyzabcwxyza", 1);
        carries("xyx", "xax", 1);
        carries("xax", "xyx", 0);
        carries("xx", "wzwz", 1);
        carries("xx", "wz", 0);
        carries("xy", "x", 0);
        carries("a", "a", 1);
        carries("a", "x", 0);
        carries("w", "z", 1);
        carries("wx", "xw", 1);
        carries("axa", "aaa", 1);
        carries("axa", "aa", 0);
        carries("wxwx", "xwaxwa", 1);
        TwoSides t = new TwoSides();
        Due.pattern(t, 0, "x");
        Due.be("26: one has no items", t.carries(0, 1), NOT);
        Due.be("26: one has no items", t.carries(1, 0), NOT);
        for (int i : NO_FOUR) {
            Due.be("26: pattern " + i, t.carries(i, 1), UNKNOWN);
            Due.be("26: pattern " + i, t.carries(1, i), UNKNOWN);
        }
    }

    private static void promises27And28() {
        TwoSides t = new TwoSides();
        Due.be("28: none", t.clear(), 0);
        for (int i = 1; i <= 6; i++) Due.be("27: sample", Due.sample(t, "abcabcab".substring(8 - i)), i);
        Due.be("27: a seventh", Due.sample(t, "a"), FULL);
        for (int n : new int[] {LEAST, -1, 0, 9, MOST}) Due.be("27: n " + n, t.sample(0, n), OUTSIDE);
        Due.be("27: a letter 3", t.sample(3 << 14, 8), OUTSIDE);
        Due.be("27: six", t.count(3), 6);
        Due.be("28: clear", t.clear(), 6);
        Due.be("28: clear again", t.clear(), 0);
        Due.be("27: bits behind its end", t.sample(-1 << 4, 2), 1);
        Due.be("27: a letter 3", t.sample(-1 << 4, 3), OUTSIDE);
        Due.same("27: that sample", Due.common(t), "ax");
    }

    private static void common(String due, String... samples) {
        TwoSides t = new TwoSides();
        for (String s : samples) Due.sample(t, s);
        Due.same("29: of " + String.join(" ", samples), Due.common(t), due);
        Due.be("29: its length", t.common(-1), due.length());
        Due.be("29: far", t.common(MOST), NONE);
        Due.be("29: below", t.common(-2), OUTSIDE);
    }

    private static void promise29() {
        common("x", "a");
        common("aaaaaaax", "aaaaaaaa");
        common("abcabcax", "abcabcab");
        common("bax", "baabb", "bab", "baa");
        common("xx", "aabaab", "bb", "caca");
        common("xbx", "aabaa", "aba", "cbc");
        common("x", "ab", "b", "c");
        common("axb", "acb", "aab", "abab");
        common("ax", "ab", "aab");
        TwoSides t = new TwoSides();
        Due.be("29: no samples", t.common(0), NOT);
        Due.be("29: below ahead of that", t.common(-2), OUTSIDE);
        Due.sample(t, "ab");
        Due.same("29: one", Due.common(t), "ax");
        Due.sample(t, "cb");
        Due.same("29: one more", Due.common(t), "xb");
        t.clear();
        Due.be("29: cleared", t.common(-1), NOT);
    }

    private static void promise30() {
        TwoSides t = Due.with("wa=wb;za=");
        Due.be("30: equations", t.count(0), 2);
        Due.be("30: unknowns", t.count(2), 2);
        Due.pattern(t, 1, "x");
        Due.pattern(t, 1, "xa");
        Due.pattern(t, 3, "xa");
        Due.be("30: patterns", t.count(4), 2);
        Due.sample(t, "abc");
        Due.sample(t, "abc");
        Due.be("30: samples", t.count(3), 2);
        Due.write(t, "a b");
        Due.be("30: bytes", t.count(1), 3);
        for (int what : new int[] {LEAST, -1, 5, MOST}) Due.be("30: what " + what, t.count(what), OUTSIDE);
    }
}
