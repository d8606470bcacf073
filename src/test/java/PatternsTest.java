/** Terms 5 and promises 24 to 30: patterns, samples, what they have in common, and the counts. */
final class PatternsTest {
    private static final int NONE = TwoSides.NONE, UNKNOWN = TwoSides.UNKNOWN, OUTSIDE = TwoSides.OUTSIDE, NOT = TwoSides.NOT,
        FULL = TwoSides.FULL;
    private static final int LEAST = Due.LEAST, MOST = Due.MOST;

    private PatternsTest() { }

    public static void main(String[] args) throws IllegalAccessException {
        Due.all(PatternsTest.class);
    }

    private static void makes(String pattern, String word, int due) {
        TwoSides t = new TwoSides();
        Due.be("items of " + pattern, Due.pattern(t, 1, pattern), pattern.length());
        Due.desk(t, 2, word);
        Due.be(pattern + " makes " + word, t.makes(1, 2), due);
    }

    private static void carries(String one, String other, int due) {
        TwoSides t = new TwoSides();
        Due.be("items of " + one, Due.pattern(t, 3, one), one.length());
        Due.be("items of " + other, Due.pattern(t, 0, other), other.length());
        Due.be(one + " carries " + other, t.carries(3, 0), due);
    }

    private static void common(String due, String... samples) {
        TwoSides t = new TwoSides();
        for (int i = 0; i < samples.length; i++) Due.be("sample " + samples[i], Due.sample(t, samples[i]), i + 1);
        String what = "common of " + String.join(" ", samples);
        Due.same(what, Due.common(t), due);
        Due.be(what + ", how many", t.common(-1), due.length());
    }

    // ---- terms 5

    private static void terms05_noPatternsAtFirst() {
        TwoSides t = new TwoSides();
        for (int i = 0; i < 4; i++) Due.be("pattern " + i, t.makes(i, 0), NOT);
        Due.be("how many", t.count(4), 0);
    }

    private static void terms05_oneItemAtLeast() {
        makes("a", "a", 1);
        makes("a", "b", 0);
        makes("a", "", 0);
        makes("x", "c", 1);
    }

    private static void terms05_twelveItemsAtMost() {
        makes("wwwwwwwwwwww", "c".repeat(12), 1);
        makes("wwwwwwwwwwww", "ab".repeat(12), 1);
        makes("abcabcabcabc", "abcabcabcabc", 1);
        makes("abcabcabcabx", "abcabcabcab", 0);
        makes("wxyzwxyzwxyz", "a".repeat(12), 1);
    }

    private static void terms05_wordsOfOneLetterOrMore() {
        makes("x", "", 0);
        makes("x", "a", 1);
        makes("xy", "a", 0);
        makes("xy", "ab", 1);
        makes("xx", "a", 0);
        makes("xx", "aa", 1);
        makes("axb", "ab", 0);
        makes("axb", "acb", 1);
        makes("wxyz", "abc", 0);
        makes("wxyz", "abca", 1);
    }

    private static void terms05_inSoManyWays() {
        makes("xy", "abab", 3);
        makes("xyz", "aaaaa", 6);
        makes("xxyy", "aaaaaaaa", 3);
        makes("wxwx", "abababab", 3);
        makes("xaybz", "aabb", 0);
        makes("xaybz", "cacbc", 1);
        makes("xay", "aaaa", 2);
        makes("xyx", "aaaaa", 2);
        makes("zaxaz", "baababaab", 1);
    }

    private static void terms05_onlyItsOwnUnknownsCount() {
        makes("z", "ab", 1);
        makes("wz", "ab", 1);
        makes("abc", "abc", 1);
    }

    private static void terms05_itMakesNoOtherWord() {
        makes("abc", "abb", 0);
        makes("abc", "abca", 0);
        makes("abc", "ab", 0);
        makes("xx", "abba", 0);
        makes("xxb", "aac", 0);
    }

    private static void terms05_oneItemCarriesAll() {
        carries("x", "wxyzabcwxyza", 1);
        carries("x", "a", 1);
        carries("z", "w", 1);
        carries("a", "a", 1);
        carries("a", "b", 0);
        carries("a", "x", 0);
    }

    private static void terms05_rowsOfOneItemOrMore() {
        carries("xy", "x", 0);
        carries("xy", "wa", 1);
        carries("axa", "aa", 0);
        carries("axa", "aaa", 1);
        carries("wxyz", "xyz", 0);
        carries("wxyz", "aaaa", 1);
    }

    private static void terms05_itBecomesThatOne() {
        carries("xyx", "xax", 1);
        carries("xax", "xyx", 0);
        carries("xx", "wzwz", 1);
        carries("xx", "wz", 0);
        carries("wx", "xw", 1);
        carries("wxwx", "xwaxwa", 1);
        carries("wxwx", "xwaxwb", 0);
        carries("wwwwwwwwwwww", "zzzzzzzzzzzz", 1);
        carries("wwwwwwwwwwww", "zzzzzzzzzzzx", 0);
        carries("xyxy", "abab", 1);
    }

    private static void terms05_samplesAreSixAtMost() {
        TwoSides t = new TwoSides();
        for (int i = 1; i <= 6; i++) Due.be("sample", t.sample(0, i), i);
        Due.be("one more", t.sample(0, 1), FULL);
        Due.be("how many", t.count(3), 6);
    }

    private static void terms05_xOnceAtLeast() {
        common("x", "a");
        common("ax", "ab");
        common("abcabcax", "abcabcab");
        common("aaaaaaax", "aaaaaaaa", "aaaaaaaa");
    }

    private static void terms05_theLongest() {
        common("xx", "aabaab", "bb", "caca");
        common("xbx", "aabaa", "aba", "cbc");
        common("axb", "acb", "aab", "abab");
        common("bax", "baabb", "bab", "baa");
        common("x", "ab", "b", "c");
        common("aaabbbbx", "aaabbbbc", "aaabbbba");
    }

    private static void terms05_ofSeveralTheFirst() {
        // also xb, xx for some
        common("ax", "ab", "ab");
        common("ax", "aa", "aba");
        common("bx", "bb", "bab");
        common("xb", "ab", "cb");
        common("cx", "cc", "cac");
    }

    private static void terms05_xIsTheSameWord() {
        common("xx", "abab", "cc");
        common("x", "abba", "cb");
        common("xbx", "aba", "cabca");
    }

    // ---- promise 24

    private static void promise24_howManyItems() {
        TwoSides t = new TwoSides();
        String items = "wxyzabcabcab";
        for (int n = 1; n <= 12; n++) {
            Due.write(t, items.substring(0, n));
            Due.be("items", t.pattern(3), n);
            Due.be("the text is empty", t.count(1), 0);
        }
    }

    private static void promise24_noItemsAreNot() {
        for (String text : new String[] {"", " ", "        "}) {
            TwoSides t = new TwoSides();
            Due.write(t, text);
            Due.be("<" + text + ">", t.pattern(0), NOT);
            Due.be("the text stands", t.count(1), text.length());
            Due.be("no pattern", t.count(4), 0);
        }
    }

    private static void promise24_thirteenItemsAreNot() {
        for (char item : "abcwxyz".toCharArray()) {
            TwoSides t = new TwoSides();
            Due.write(t, "wxyzabcabcab" + item);
            Due.be("13 items", t.pattern(0), NOT);
            Due.be("the text stands", t.count(1), 13);
            Due.be("its fault", t.fault(), 12);
        }
        TwoSides t = new TwoSides();
        Due.write(t, "x".repeat(100));
        Due.be("100 items", t.pattern(0), NOT);
    }

    private static void promise24_moreThanOneSideIsNot() {
        for (String text : new String[] {"x=", "=x", "=", "x=a", "x;", ";", "x;y", "x=a;y=b"}) {
            TwoSides t = new TwoSides();
            Due.write(t, text);
            Due.be(text, t.pattern(0), NOT);
            Due.be("the text stands", t.count(1), text.length());
        }
    }

    private static void promise24_otherBytesAreNot() {
        for (int b = 0; b < 256; b++) {
            TwoSides t = new TwoSides();
            t.write('x' | (long) b << 8, 2);
            int due = "abcwxyz".indexOf(b) >= 0 ? 2 : b == ' ' ? 1 : NOT;
            Due.be("x and byte " + b, t.pattern(0), due);
            Due.be("the text", t.count(1), due == NOT ? 2 : 0);
        }
    }

    private static void promise24_blanksDoNotMatter() {
        TwoSides t = new TwoSides();
        Due.write(t, " x  ax ");
        Due.be("three items", t.pattern(0), 3);
        Due.desk(t, 0, "bab");
        Due.be("it makes bab", t.makes(0, 0), 1);
        Due.write(t, " ".repeat(88) + "wxyzabcabcab");
        Due.be("twelve items in a full text", t.pattern(0), 12);
    }

    private static void promise24_aPatternThatIsNotLeavesTheOneThatStands() {
        TwoSides t = new TwoSides();
        Due.pattern(t, 2, "xx");
        Due.desk(t, 0, "abab");
        Due.write(t, "x=");
        Due.be("not", t.pattern(2), NOT);
        Due.be("xx makes abab", t.makes(2, 0), 1);
        Due.be("how many", t.count(4), 1);
    }

    private static void promise24_aNewOneInsteadOfIt() {
        TwoSides t = new TwoSides();
        Due.pattern(t, 0, "wxyzwxyzwxyz");
        Due.desk(t, 0, "ab");
        Due.be("it is too long", t.makes(0, 0), 0);
        Due.pattern(t, 0, "y");
        Due.be("one item", t.makes(0, 0), 1);
        Due.pattern(t, 0, "ab");
        Due.be("letters", t.makes(0, 0), 1);
    }

    private static void promise24_eachPatternByItself() {
        TwoSides t = new TwoSides();
        String[] patterns = {"a", "ax", "axb", "xaxb"};
        for (int i = 0; i < 4; i++) {
            Due.pattern(t, i, patterns[i]);
            Due.be("how many", t.count(4), i + 1);
        }
        Due.desk(t, 0, "acb");
        int[] due = {0, 1, 1, 0};
        for (int i = 0; i < 4; i++) Due.be(patterns[i], t.makes(i, 0), due[i]);
    }

    private static void promise24_theEquationsStand() {
        TwoSides t = State.full("xa");
        t.pattern(0);
        Due.pattern(t, 0, "xax");
        Due.same("all else", State.told(t), State.told(State.full("")));
    }

    private static void promise24_noSuchPattern() {
        TwoSides t = new TwoSides();
        Due.write(t, "x");
        Due.each("pattern", Due.NO_FOUR, t::pattern, UNKNOWN);
        Due.be("the text stands", t.count(1), 1);
        Due.be("it is one", t.pattern(3), 1);
    }

    private static void promise24_unknownIsAheadOfNot() {
        TwoSides t = new TwoSides();
        Due.each("pattern of no text", Due.NO_FOUR, t::pattern, UNKNOWN);
        Due.write(t, "x=");
        Due.each("pattern of an equation", Due.NO_FOUR, t::pattern, UNKNOWN);
    }

    // ---- promise 25

    private static void promise25_ofAWordWithoutLetters() {
        makes("x", "", 0);
        makes("a", "", 0);
        makes("wxyzwxyzwxyz", "", 0);
    }

    private static void promise25_ofThirtyLetters() {
        makes("wxyz", "c".repeat(30), 29 * 28 * 27 / 6);
        makes("wxyz", "abc".repeat(10), 29 * 28 * 27 / 6);
        makes("x", "b".repeat(30), 1);
        makes("xx", "b".repeat(30), 1);
        makes("wwxxyyzz", "a".repeat(30), 14 * 13 * 12 / 6);
        makes("wxyz", "c".repeat(29), 28 * 27 * 26 / 6);
        makes("wwwwwwwwwwww", "b".repeat(30), 0);
    }

    private static void promise25_aPatternWithoutItemsIsNot() {
        TwoSides t = new TwoSides();
        Due.pattern(t, 2, "x");
        Due.desk(t, 0, "a");
        for (int i = 0; i < 4; i++) Due.be("pattern " + i, t.makes(i, 0), i == 2 ? 1 : NOT);
    }

    private static void promise25_noSuchPatternOrWord() {
        TwoSides t = new TwoSides();
        Due.pattern(t, 0, "x");
        Due.each("pattern", Due.NO_FOUR, i -> t.makes(i, 0), UNKNOWN);
        Due.each("word", Due.NO_FOUR, word -> t.makes(0, word), UNKNOWN);
    }

    private static void promise25_unknownIsAheadOfNot() {
        TwoSides t = new TwoSides();
        Due.each("word, of no items", Due.NO_FOUR, word -> t.makes(1, word), UNKNOWN);
        Due.each("pattern, of no items", Due.NO_FOUR, i -> t.makes(i, 1), UNKNOWN);
    }

    // ---- promise 26

    private static void promise26_aPatternCarriesItself() {
        for (String p : new String[] {"a", "x", "xax", "wxyzwxyzwxyz"}) {
            TwoSides t = new TwoSides();
            Due.pattern(t, 1, p);
            Due.be(p, t.carries(1, 1), 1);
            carries(p, p, 1);
        }
    }

    private static void promise26_oneWithoutItemsIsNot() {
        TwoSides t = new TwoSides();
        Due.be("both", t.carries(2, 3), NOT);
        Due.pattern(t, 0, "x");
        Due.be("the second", t.carries(0, 1), NOT);
        Due.be("the first", t.carries(1, 0), NOT);
        Due.be("none", t.carries(0, 0), 1);
    }

    private static void promise26_noSuchPattern() {
        TwoSides t = new TwoSides();
        Due.pattern(t, 0, "x");
        Due.each("the first", Due.NO_FOUR, i -> t.carries(i, 0), UNKNOWN);
        Due.each("the second", Due.NO_FOUR, j -> t.carries(0, j), UNKNOWN);
        Due.each("both", Due.NO_FOUR, i -> t.carries(i, i), UNKNOWN);
    }

    private static void promise26_unknownIsAheadOfNot() {
        TwoSides t = new TwoSides();
        Due.each("the first", Due.NO_FOUR, i -> t.carries(i, 1), UNKNOWN);
        Due.each("the second", Due.NO_FOUR, j -> t.carries(1, j), UNKNOWN);
    }

    // ---- promise 27

    private static void promise27_lengths1To8() {
        for (int n = 1; n <= 8; n++) {
            TwoSides t = new TwoSides();
            Due.be("n " + n, t.sample(0, n), 1);
            Due.be("as long in common", t.common(-1), n);
        }
    }

    private static void promise27_otherLengthsAreOutside() {
        TwoSides t = new TwoSides();
        Due.each("n", new int[] {LEAST, -1, 0, 9, 16, MOST}, n -> t.sample(0, n), OUTSIDE);
        Due.be("no samples", t.count(3), 0);
        Due.be("nothing in common", t.common(-1), NOT);
    }

    private static void promise27_aLetter3IsOutside() {
        TwoSides t = new TwoSides();
        for (int i = 0; i < 8; i++) {
            for (int n = i + 1; n <= 8; n++) Due.be("at " + i + " of " + n, t.sample(3 << 2 * i, n), OUTSIDE);
        }
        Due.be("no samples", t.count(3), 0);
    }

    private static void promise27_behindTheWordItDoesNotMatter() {
        for (int n = 1; n <= 8; n++) {
            TwoSides t = new TwoSides();
            Due.be("behind " + n, t.sample(-1 << 2 * n, n), 1);
            Due.same("all a but for x", Due.common(t), "a".repeat(n - 1) + "x");
        }
    }

    private static void promise27_letterIIsShiftedBy2I() {
        for (int i = 0; i < 7; i++) {
            TwoSides t = new TwoSides();
            t.sample(1 << 2 * i | 2 << 14, 8);
            Due.same("b at " + i, Due.common(t), "a".repeat(i) + "b" + "a".repeat(6 - i) + "x");
        }
    }

    private static void promise27_aSeventhIsFull() {
        TwoSides t = new TwoSides();
        for (int i = 1; i <= 6; i++) Due.be("sample " + i, Due.sample(t, "aab"), i);
        for (int n = 1; n <= 8; n++) Due.be("a seventh of " + n, t.sample(0, n), FULL);
        Due.be("six", t.count(3), 6);
        Due.same("nothing changed", Due.common(t), "aax");
        t.clear();
        Due.be("room again", Due.sample(t, "aab"), 1);
    }

    private static void promise27_outsideIsAheadOfFull() {
        TwoSides t = new TwoSides();
        for (int i = 1; i <= 6; i++) Due.sample(t, "aab");
        Due.each("n", new int[] {LEAST, -1, 0, 9, MOST}, n -> t.sample(0, n), OUTSIDE);
        Due.be("a letter 3", t.sample(3, 1), OUTSIDE);
    }

    private static void promise27_samplesAlikeAreSeveral() {
        TwoSides t = new TwoSides();
        for (int i = 1; i <= 6; i++) Due.be("again", Due.sample(t, "c"), i);
    }

    // ---- promise 28

    private static void promise28_howManyThereWere() {
        for (int n = 0; n <= 6; n++) {
            TwoSides t = new TwoSides();
            for (int i = 0; i < n; i++) Due.sample(t, "abc");
            Due.be("clear of " + n, t.clear(), n);
            Due.be("none are left", t.count(3), 0);
            Due.be("none again", t.clear(), 0);
        }
    }

    private static void promise28_nothingInCommonThen() {
        TwoSides t = new TwoSides();
        Due.sample(t, "abc");
        Due.be("three", t.common(-1), 3);
        t.clear();
        Due.be("none", t.common(-1), NOT);
        Due.sample(t, "cb");
        Due.same("of the new one alone", Due.common(t), "cx");
    }

    private static void promise28_allElseStands() {
        TwoSides t = State.full("x=a");
        Due.be("clear", t.clear(), 6);
        for (String s : new String[] {"aba", "aca", "abbba", "acaaca", "aaa", "abcabcaa"}) Due.sample(t, s);
        Due.same("all else", State.told(t), State.told(State.full("x=a")));
    }

    // ---- promise 29

    private static void promise29_ofOneLetter() {
        TwoSides t = new TwoSides();
        Due.sample(t, "b");
        Due.be("one item", t.common(-1), 1);
        Due.be("x", t.common(0), 5);
        Due.be("no more", t.common(1), NONE);
        common("x", "a", "b", "c", "ab", "bc", "ca");
    }

    private static void promise29_ofSixSamplesOfEightLetters() {
        common("aaaaaaax", "aaaaaaaa", "aaaaaaaa", "aaaaaaaa", "aaaaaaaa", "aaaaaaaa", "aaaaaaaa");
        common("aaaaaaax", "aaaaaaaa", "aaaaaaab", "aaaaaaac", "aaaaaaaa", "aaaaaaab", "aaaaaaac");
        common("xxxxxxxx", "aaaaaaaa", "bbbbbbbb", "cccccccc");
        common("xx", "abacabac", "bbbbbbbb", "cc");
    }

    private static void promise29_howManyOrAnItem() {
        TwoSides t = new TwoSides();
        Due.sample(t, "aba");
        Due.sample(t, "acba");
        int[] due = {3, 0, 5, 0, NONE, NONE};
        for (int k = -1; k < 5; k++) Due.be("k " + k, t.common(k), due[k + 1]);
        Due.each("far", new int[] {7, 8, 12, MOST}, t::common, NONE);
    }

    private static void promise29_eightItems() {
        TwoSides t = new TwoSides();
        Due.sample(t, "abcabcab");
        int[] due = {8, 0, 1, 2, 0, 1, 2, 0, 5, NONE};
        for (int k = -1; k < 9; k++) Due.be("k " + k, t.common(k), due[k + 1]);
    }

    private static void promise29_belowTheLengthIsOutside() {
        TwoSides t = new TwoSides();
        Due.sample(t, "aba");
        Due.each("k", new int[] {LEAST, -3, -2}, t::common, OUTSIDE);
    }

    private static void promise29_withoutSamplesIsNot() {
        TwoSides t = new TwoSides();
        Due.each("k", new int[] {-1, 0, 1, 8, MOST}, t::common, NOT);
    }

    private static void promise29_outsideIsAheadOfNot() {
        TwoSides t = new TwoSides();
        Due.each("k", new int[] {LEAST, -3, -2}, t::common, OUTSIDE);
    }

    private static void promise29_oneSampleMore() {
        TwoSides t = new TwoSides();
        Due.sample(t, "ab");
        Due.same("of one", Due.common(t), "ax");
        Due.sample(t, "cb");
        Due.same("of two", Due.common(t), "xb");
        Due.sample(t, "c");
        Due.same("of three", Due.common(t), "x");
    }

    // ---- promise 30

    private static void promise30_equations() {
        TwoSides t = new TwoSides();
        for (int n = 1; n <= 4; n++) {
            Due.write(t, "=;=;=;=".substring(0, 2 * n - 1));
            t.take();
            Due.be("equations", t.count(0), n);
        }
        Due.write(t, "=");
        t.take();
        Due.be("one again", t.count(0), 1);
    }

    private static void promise30_bytes() {
        for (int n : new int[] {0, 1, 8, 99, 100}) Due.be("bytes", State.blanks(n).count(1), n);
    }

    private static void promise30_unknownsInEquations() {
        String[] texts = {"a=b", "x=x", "x=;=x;xxx=", "w=z", "wx=y", "w=;x=;y=;z=", "wxyz="};
        int[] due = {0, 1, 1, 2, 3, 4, 4};
        for (int i = 0; i < due.length; i++) Due.be("unknowns of " + texts[i], Due.with(texts[i]).count(2), due[i]);
        TwoSides t = Due.with("wxyz=");
        Due.write(t, "x=");
        Due.be("not of the text", t.count(2), 4);
        t.take();
        Due.be("of those taken", t.count(2), 1);
    }

    private static void promise30_samples() {
        TwoSides t = new TwoSides();
        for (int n = 0; n <= 6; n++) {
            Due.be("samples", t.count(3), n);
            Due.sample(t, "a");
        }
        Due.be("no seventh", t.count(3), 6);
    }

    private static void promise30_patternsThatHaveItems() {
        TwoSides t = new TwoSides();
        Due.pattern(t, 1, "x");
        Due.pattern(t, 1, "xa");
        Due.be("one", t.count(4), 1);
        Due.pattern(t, 3, "xa");
        Due.be("two alike", t.count(4), 2);
        Due.pattern(t, 0, "abc");
        Due.pattern(t, 2, "x");
        Due.be("all", t.count(4), 4);
    }

    private static void promise30_otherNumbersAreOutside() {
        TwoSides t = new TwoSides();
        Due.each("what", new int[] {LEAST, -1, 5, 6, MOST}, t::count, OUTSIDE);
        for (int what = 0; what < 5; what++) Due.be("what " + what, t.count(what), 0);
    }
}
