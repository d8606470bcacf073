/** Terms 4 and promises 18 to 23: the words of the desk, and places that must be alike. */
final class WordsTest {
    private static final int NONE = TwoSides.NONE, UNKNOWN = TwoSides.UNKNOWN, OUTSIDE = TwoSides.OUTSIDE;
    private static final int LEAST = Due.LEAST, MOST = Due.MOST;
    private static final int LENGTH = 0, ROOT = 1, BORDER = 2, LEAST_TURN = 3, PARTS = 4, PERIOD = 5, PERIODS = 6;

    private WordsTest() { }

    public static void main(String[] args) throws IllegalAccessException {
        Due.all(WordsTest.class);
    }

    private static TwoSides desk(String... words) {
        TwoSides t = new TwoSides();
        for (int i = 0; i < words.length; i++) Due.be("word " + words[i], Due.desk(t, i, words[i]), 1);
        return t;
    }

    private static void of(int what, String word, int due) {
        for (int i = 0; i < 4; i++) {
            TwoSides t = new TwoSides();
            Due.desk(t, i, word);
            Due.be("of " + word + " as word " + i + ", " + what, t.of(i, what), due);
        }
    }

    /** The falling parts of the word that the given ones together are. */
    private static void falls(String... parts) {
        TwoSides t = desk(String.join("", parts));
        Due.be("how many parts of " + String.join(" ", parts), t.of(0, PARTS), parts.length);
        for (int k = 0; k < parts.length; k++) Due.be("part " + k + " of " + String.join(" ", parts), t.part(0, k), parts[k].length());
        Due.be("behind the last of " + String.join(" ", parts), t.part(0, parts.length), NONE);
    }

    // ---- terms 4

    private static void terms04_noLettersAtFirst() {
        TwoSides t = new TwoSides();
        for (int i = 0; i < 4; i++) Due.be("word " + i, t.of(i, LENGTH), 0);
    }

    private static void terms04_periodsFrom1ToTheLength() {
        of(PERIODS, "a", 1);
        of(PERIODS, "ab", 1);
        of(PERIODS, "aa", 2);
        of(PERIODS, "aba", 2);
        of(PERIODS, "c".repeat(30), 30);
        of(PERIODS, "a".repeat(29) + "b", 1);
        of(PERIOD, "a".repeat(29) + "b", 30);
        of(PERIOD, "c".repeat(30), 1);
    }

    private static void terms04_lettersAPeriodApart() {
        of(PERIOD, "abab", 2);
        of(PERIOD, "abcab", 3);
        of(PERIOD, "abcabca", 3);
        of(PERIODS, "abcabca", 3);
        of(PERIOD, "abcabcb", 7);
        of(PERIOD, "baa", 3);
        of(PERIOD, "a".repeat(15) + "b" + "a".repeat(14), 16);
        of(PERIODS, "a".repeat(15) + "b" + "a".repeat(14), 15);
    }

    private static void terms04_theRootsLengthDividesThatOfTheWord() {
        of(ROOT, "a", 1);
        of(ROOT, "ab", 2);
        of(ROOT, "aa", 1);
        of(ROOT, "abab", 2);
        of(ROOT, "ababa", 5);
        of(ROOT, "abcabcab", 8);
        of(ROOT, "abaaba", 3);
        of(ROOT, "ab".repeat(15), 2);
        of(ROOT, "abc".repeat(10), 3);
        of(ROOT, "aaaab".repeat(6), 5);
        of(ROOT, "aaaaaaaaaaaaaab".repeat(2), 15);
        of(ROOT, "c".repeat(29), 1);
        of(ROOT, "c".repeat(29) + "a", 30);
    }

    private static void terms04_theBorderIsShorterThanTheWord() {
        of(BORDER, "a", 0);
        of(BORDER, "aa", 1);
        of(BORDER, "ab", 0);
        of(BORDER, "aba", 1);
        of(BORDER, "c".repeat(30), 29);
        of(BORDER, "b" + "a".repeat(28) + "b", 1);
        of(BORDER, "b" + "a".repeat(29), 0);
    }

    private static void terms04_theLongestBorder() {
        of(BORDER, "abaababaaba", 6);
        of(BORDER, "ababa", 3);
        of(BORDER, "abcabcab", 5);
    }

    private static void terms04_leastTurnIsTheLeastOfSeveral() {
        of(LEAST_TURN, "abab", 0);
        of(LEAST_TURN, "baba", 1);
        of(LEAST_TURN, "c".repeat(30), 0);
        of(LEAST_TURN, "cab".repeat(10), 1);
        of(LEAST_TURN, "bcabca", 2);
    }

    private static void terms04_firstOfAllTurns() {
        of(LEAST_TURN, "ab", 0);
        of(LEAST_TURN, "ba", 1);
        of(LEAST_TURN, "cba", 2);
        of(LEAST_TURN, "b".repeat(29) + "a", 29);
        of(LEAST_TURN, "b" + "a".repeat(29), 1);
        of(LEAST_TURN, "a".repeat(29) + "b", 0);
        of(LEAST_TURN, "aabaaa", 3);
        of(LEAST_TURN, "abaabaaab", 5);
    }

    private static void terms04_partsOfOneLetter() {
        falls("c", "b", "a");
        falls("a", "a", "a");
        falls("b");
    }

    private static void terms04_noneIsAheadOfTheNext() {
        falls("b", "ab", "ab", "aab", "aab", "a");
        falls("abac", "ab", "aabb");
        falls("ac", "abc", "ab", "a");
    }

    private static void terms04_aPartIsAheadOfItsTurns() {
        falls("ab");
        falls("aabab");
        falls("ab", "ab");
        falls("aabaac");
        falls("aab", "aab");
    }

    private static void terms04_oneOfThirtyLettersAndThirtyOfOne() {
        falls("a".repeat(29) + "b");
        falls("c".repeat(30).split(""));
        falls("b", "a".repeat(28) + "c");
        falls("c", "c", "b", "b", "a", "a", "a");
    }

    private static void terms04_theShorterOneComesAhead() {
        // a comes ahead of ab, so that ab is one part of aba and a the next
        falls("ab", "a");
        falls("aabab", "aab", "a", "a");
    }

    // ---- promise 18

    private static void promise18_lengths0To30() {
        TwoSides t = new TwoSides();
        for (int n = 0; n <= 30; n++) {
            Due.be("n " + n, t.word(2, 0, n), 1);
            Due.be("length " + n, t.of(2, LENGTH), n);
        }
    }

    private static void promise18_otherLengthsAreOutside() {
        TwoSides t = desk("abcabc");
        Due.each("n", new int[] {LEAST, -1, 31, 32, 64, MOST}, n -> t.word(0, 0, n), OUTSIDE);
        Due.be("nothing changed", t.of(0, ROOT), 3);
    }

    private static void promise18_aLetter3IsOutside() {
        TwoSides t = desk("abcabc");
        for (int i = 0; i < 30; i++) {
            Due.be("the last of " + (i + 1), t.word(0, 3L << 2 * i, i + 1), OUTSIDE);
            Due.be("at " + i, t.word(0, 3L << 2 * i, 30), OUTSIDE);
        }
        Due.be("nothing changed", t.of(0, ROOT), 3);
    }

    private static void promise18_behindTheWordItDoesNotMatter() {
        TwoSides t = new TwoSides();
        for (int n = 0; n <= 30; n++) {
            Due.be("behind " + n, t.word(0, -1L << 2 * n, n), 1);
            Due.be("all a of " + n, t.of(0, PERIODS), n);
        }
    }

    private static void promise18_letterIIsShiftedBy2I() {
        for (int i = 0; i < 30; i++) {
            TwoSides t = new TwoSides();
            Due.be("b at " + i, t.word(0, 1L << 2 * i, 30), 1);
            Due.be("turned to it", t.of(0, LEAST_TURN), (i + 1) % 30);
            Due.be("c at " + i, t.word(1, 2L << 2 * i, 30), 1);
            Due.be("turned to it", t.of(1, LEAST_TURN), (i + 1) % 30);
            Due.be("c is not b", t.turned(0, 1), NONE);
        }
    }

    private static void promise18_eachWordByItself() {
        TwoSides t = desk("a", "ab", "abc", "abca");
        for (int i = 0; i < 4; i++) Due.be("length of " + i, t.of(i, LENGTH), i + 1);
        Due.desk(t, 1, "");
        int[] due = {1, 0, 3, 4};
        for (int i = 0; i < 4; i++) Due.be("length of " + i, t.of(i, LENGTH), due[i]);
    }

    private static void promise18_aShorterWordLeavesNothing() {
        TwoSides t = desk("abcabcabcabcabcabcabcabcabcabc");
        Due.desk(t, 0, "aa");
        Due.be("length", t.of(0, LENGTH), 2);
        Due.be("period", t.of(0, PERIOD), 1);
        Due.be("agrees", t.agree(0, 1), 1);
        Due.desk(t, 0, "");
        Due.be("no period", t.of(0, PERIOD), 0);
    }

    private static void promise18_noSuchWord() {
        TwoSides t = new TwoSides();
        Due.each("word", Due.NO_FOUR, i -> t.word(i, 0, 1), UNKNOWN);
        for (int i = 0; i < 4; i++) Due.be("nothing changed", t.of(i, LENGTH), 0);
    }

    private static void promise18_unknownIsAheadOfOutside() {
        TwoSides t = new TwoSides();
        Due.be("and n", t.word(4, 0, 31), UNKNOWN);
        Due.be("and a letter", t.word(-1, 3, 1), UNKNOWN);
    }

    // ---- promise 19

    private static void promise19_ofAWordWithoutLetters() {
        for (int what = 0; what < 7; what++) of(what, "", 0);
    }

    private static void promise19_ofOneLetter() {
        int[] due = {1, 1, 0, 0, 1, 1, 1};
        for (String letter : new String[] {"a", "b", "c"}) for (int what = 0; what < 7; what++) of(what, letter, due[what]);
    }

    private static void promise19_ofThirtyLetters() {
        int[] alike = {30, 1, 29, 0, 30, 1, 30}, last = {30, 30, 0, 0, 1, 30, 1}, first = {30, 30, 0, 1, 30, 30, 1};
        for (int what = 0; what < 7; what++) {
            of(what, "c".repeat(30), alike[what]);
            of(what, "a".repeat(29) + "b", last[what]);
            of(what, "b" + "a".repeat(29), first[what]);
        }
    }

    private static void promise19_eachOfSeven() {
        int[] due = {6, 3, 3, 1, 4, 3, 2};
        for (int what = 0; what < 7; what++) of(what, "baabaa", due[what]);
        int[] other = {11, 11, 6, 7, 4, 5, 4};
        for (int what = 0; what < 7; what++) of(what, "abaababaaba", other[what]);
    }

    private static void promise19_otherNumbersAreOutside() {
        TwoSides t = desk("abc");
        Due.each("what", new int[] {LEAST, -1, 7, 8, MOST}, what -> t.of(0, what), OUTSIDE);
        Due.each("what of none", new int[] {LEAST, -1, 7, 8, MOST}, what -> t.of(1, what), OUTSIDE);
    }

    private static void promise19_noSuchWord() {
        TwoSides t = desk("abc", "abc", "abc", "abc");
        for (int what = 0; what < 7; what++) {
            for (int i : Due.NO_FOUR) Due.be("of word " + i + ", " + what, t.of(i, what), UNKNOWN);
        }
    }

    private static void promise19_unknownIsAheadOfOutside() {
        TwoSides t = desk("abc");
        Due.be("and below", t.of(4, -1), UNKNOWN);
        Due.be("and above", t.of(-1, 7), UNKNOWN);
    }

    // ---- promise 20

    private static void promise20_ofAWordWithoutLettersNone() {
        TwoSides t = new TwoSides();
        Due.each("part", new int[] {0, 1, MOST}, k -> t.part(0, k), NONE);
    }

    private static void promise20_from0ToTheLast() {
        TwoSides t = desk("", "bababaabaab");
        int[] due = {1, 2, 2, 3, 3, NONE, NONE};
        for (int k = 0; k < due.length; k++) Due.be("part " + k, t.part(1, k), due[k]);
        Due.each("far", new int[] {29, 30, MOST}, k -> t.part(1, k), NONE);
    }

    private static void promise20_thirtyParts() {
        TwoSides t = desk("c".repeat(30));
        Due.be("the last", t.part(0, 29), 1);
        Due.be("behind it", t.part(0, 30), NONE);
    }

    private static void promise20_below0IsOutside() {
        TwoSides t = desk("abc");
        Due.each("part", new int[] {LEAST, -2, -1}, k -> t.part(0, k), OUTSIDE);
        Due.each("part of none", new int[] {LEAST, -2, -1}, k -> t.part(1, k), OUTSIDE);
    }

    private static void promise20_noSuchWord() {
        TwoSides t = desk("abc", "abc", "abc", "abc");
        Due.each("word", Due.NO_FOUR, i -> t.part(i, 0), UNKNOWN);
    }

    private static void promise20_unknownIsAheadOfOutside() {
        TwoSides t = desk("abc");
        Due.each("word", Due.NO_FOUR, i -> t.part(i, -1), UNKNOWN);
    }

    // ---- promise 21

    private static void agree(String one, String other, int due) {
        TwoSides t = desk("", one, "", other);
        Due.be(one + " and " + other, t.agree(1, 3), due);
        Due.be(other + " and " + one, t.agree(3, 1), due);
    }

    private static void promise21_wordsWithoutLettersAgreeWithAll() {
        agree("", "", 1);
        agree("", "a", 1);
        agree("", "abc".repeat(10), 1);
    }

    private static void promise21_wordsOfOneRootAgree() {
        agree("a", "a", 1);
        agree("ab", "abab", 1);
        agree("ababab", "abab", 1);
        agree("c".repeat(30), "c".repeat(29), 1);
        agree("abc".repeat(10), "abc".repeat(9), 1);
        agree("abc".repeat(10), "abc".repeat(10), 1);
    }

    private static void promise21_otherWordsDoNot() {
        agree("a", "b", 0);
        agree("ab", "ba", 0);
        agree("ab", "aba", 0);
        agree("aba", "abaab", 0);
        agree("c".repeat(30), "c".repeat(29) + "b", 0);
        agree("c".repeat(30), "b" + "c".repeat(29), 0);
        agree("a".repeat(29) + "b", "a", 0);
    }

    private static void promise21_aWordAgreesWithItself() {
        TwoSides t = desk("abcab", "c", "", "b".repeat(30));
        for (int i = 0; i < 4; i++) Due.be("word " + i, t.agree(i, i), 1);
    }

    private static void promise21_noSuchWord() {
        TwoSides t = desk("a", "a", "a", "a");
        Due.each("the first", Due.NO_FOUR, i -> t.agree(i, 0), UNKNOWN);
        Due.each("the second", Due.NO_FOUR, j -> t.agree(0, j), UNKNOWN);
        Due.each("both", Due.NO_FOUR, i -> t.agree(i, i), UNKNOWN);
    }

    // ---- promise 22

    private static void turned(String one, String other, int due) {
        Due.be(one + " to " + other, desk("", other, one).turned(2, 1), due);
    }

    private static void promise22_wordsWithoutLetters() {
        turned("", "", 0);
        turned("a", "", NONE);
        turned("", "a", NONE);
    }

    private static void promise22_theLeastOfSeveral() {
        turned("abab", "abab", 0);
        turned("abab", "baba", 1);
        turned("c".repeat(30), "c".repeat(30), 0);
        turned("abc".repeat(10), "cab".repeat(10), 2);
    }

    private static void promise22_theFirstAndTheLastTurn() {
        turned("abc", "abc", 0);
        turned("abc", "bca", 1);
        turned("abc", "cab", 2);
        turned("b" + "a".repeat(29), "ab" + "a".repeat(28), 29);
        turned("ab" + "a".repeat(28), "b" + "a".repeat(29), 1);
    }

    private static void promise22_noneIfItIsNone() {
        turned("abc", "acb", NONE);
        turned("aab", "abb", NONE);
        turned("a", "b", NONE);
    }

    private static void promise22_noneOfAnotherLength() {
        turned("ab", "abab", NONE);
        turned("abab", "ab", NONE);
        turned("aaa", "aa", NONE);
    }

    private static void promise22_aWordToItself() {
        TwoSides t = desk("abcab", "c", "", "b".repeat(30));
        for (int i = 0; i < 4; i++) Due.be("word " + i, t.turned(i, i), 0);
    }

    private static void promise22_noSuchWord() {
        TwoSides t = desk("a", "a", "a", "a");
        Due.each("the first", Due.NO_FOUR, i -> t.turned(i, 0), UNKNOWN);
        Due.each("the second", Due.NO_FOUR, j -> t.turned(0, j), UNKNOWN);
        Due.each("both", Due.NO_FOUR, i -> t.turned(i, i), UNKNOWN);
    }

    // ---- promise 23

    private static void classes(int p, int q, int n, int... due) {
        TwoSides t = new TwoSides();
        int most = 0;
        for (int place = 0; place < due.length; place++) {
            Due.be(p + " and " + q + " of " + n + ", place " + place, t.classes(p, q, n, place), due[place]);
            Due.be(q + " and " + p + " of " + n + ", place " + place, t.classes(q, p, n, place), due[place]);
            most = Math.max(most, due[place] + 1);
        }
        Due.be(p + " and " + q + " of " + n, t.classes(p, q, n, -1), most);
    }

    private static void promise23_onePlace() {
        classes(1, 1, 1, 0);
        classes(60, 60, 1, 0);
        classes(1, 60, 1, 0);
    }

    private static void promise23_sixtyPlaces() {
        int[] each = new int[60], none = new int[60], two = new int[60];
        for (int i = 0; i < 60; i++) {
            each[i] = i;
            two[i] = i % 2;
        }
        classes(60, 60, 60, each);
        classes(1, 60, 60, none);
        classes(59, 60, 60, firstLike(60));
        classes(2, 4, 60, two);
    }

    private static int[] firstLike(int n) {
        int[] due = new int[n];
        for (int i = 0; i < n - 1; i++) due[i] = i;
        return due;
    }

    private static void promise23_aPeriodOfNOrMoreMeansNothing() {
        classes(5, 5, 5, 0, 1, 2, 3, 4);
        classes(5, 60, 5, 0, 1, 2, 3, 4);
        classes(6, 7, 5, 0, 1, 2, 3, 4);
        classes(2, 5, 5, 0, 1, 0, 1, 0);
        classes(4, 5, 5, 0, 1, 2, 3, 0);
    }

    private static void promise23_numberedAsTheyCome() {
        // 7 is with 0 by 7 and with 2 by 5
        classes(5, 7, 8, 0, 1, 0, 2, 3, 0, 1, 0);
        classes(3, 60, 8, 0, 1, 2, 0, 1, 2, 0, 1);
        classes(3, 5, 6, 0, 1, 0, 0, 1, 0);
    }

    private static void promise23_asManyAsBothPeriodsNeed() {
        TwoSides t = new TwoSides();
        Due.be("3 and 5 of 6", t.classes(3, 5, 6, -1), 2);
        Due.be("3 and 5 of 7", t.classes(3, 5, 7, -1), 1);
        Due.be("4 and 6 of 7", t.classes(4, 6, 7, -1), 3);
        Due.be("4 and 6 of 8", t.classes(4, 6, 8, -1), 2);
        Due.be("29 and 31 of 58", t.classes(29, 31, 58, -1), 2);
        Due.be("29 and 31 of 59", t.classes(29, 31, 59, -1), 1);
        Due.be("30 and 31 of 60", t.classes(30, 31, 60, -1), 1);
        Due.be("31 and 30 of 59", t.classes(31, 30, 59, -1), 2);
    }

    private static void promise23_periodsAreFrom1To60() {
        TwoSides t = new TwoSides();
        Due.each("p", new int[] {LEAST, -1, 0, 61, MOST}, p -> t.classes(p, 1, 5, 0), OUTSIDE);
        Due.each("q", new int[] {LEAST, -1, 0, 61, MOST}, q -> t.classes(1, q, 5, 0), OUTSIDE);
        Due.each("p and all", new int[] {LEAST, -1, 0, 61, MOST}, p -> t.classes(p, 1, 5, -1), OUTSIDE);
        Due.each("q and all", new int[] {LEAST, -1, 0, 61, MOST}, q -> t.classes(1, q, 5, -1), OUTSIDE);
        Due.be("60", t.classes(60, 60, 5, 4), 4);
        Due.be("1", t.classes(1, 1, 5, 4), 0);
    }

    private static void promise23_placesAreFrom1To60() {
        TwoSides t = new TwoSides();
        Due.each("n", new int[] {LEAST, -1, 0, 61, MOST}, n -> t.classes(1, 1, n, -1), OUTSIDE);
        Due.each("n and a place", new int[] {LEAST, -1, 0, 61, MOST}, n -> t.classes(1, 1, n, 0), OUTSIDE);
    }

    private static void promise23_aPlaceIsBelowN() {
        TwoSides t = new TwoSides();
        for (int n = 1; n <= 60; n++) {
            Due.be("the last of " + n, t.classes(60, 60, n, n - 1), n - 1);
            Due.be("behind " + n, t.classes(60, 60, n, n), OUTSIDE);
        }
        Due.each("place", new int[] {LEAST, -3, -2, 5, 6, 60, MOST}, place -> t.classes(1, 1, 5, place), OUTSIDE);
    }
}
