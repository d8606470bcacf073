import java.util.ArrayList;
import java.util.List;

/** The bounds of terms 1, terms 2 and promises 7 to 12: all answers within bounds. */
final class AnswersTest {
    private static final int NONE = TwoSides.NONE, UNKNOWN = TwoSides.UNKNOWN, OUTSIDE = TwoSides.OUTSIDE, MANY = TwoSides.MANY;
    private static final int LEAST = Due.LEAST, MOST = Due.MOST;

    private AnswersTest() { }

    public static void main(String[] args) throws IllegalAccessException {
        Due.all(AnswersTest.class);
    }

    /** Equations with bounds, those of w first: lo, hi and letters of each. */
    private static TwoSides within(String equations, int... bounds) {
        TwoSides t = Due.with(equations);
        for (int i = 0; i + 2 < bounds.length; i += 3) {
            Due.be("bounds of " + i / 3, t.bounds(i / 3, bounds[i], bounds[i + 1], bounds[i + 2]), 1);
        }
        return t;
    }

    private static void tell(TwoSides t, String... words) {
        for (int u = 0; u < words.length; u++) Due.be("told " + words[u], Due.tell(t, u, words[u]), 1);
    }

    /** All answers, told one after the other, are these. */
    private static void all(String what, TwoSides t, String... due) {
        Due.be(what + ": how many", t.answers(), due.length);
        for (int i = 0; i < due.length; i++) Due.same(what + ": answer " + i, Due.answer(t, i), due[i]);
        Due.be(what + ": behind the last", t.answer(due.length, 0, -1), NONE);
    }

    private static boolean isAhead(String[] a, String[] b) {
        int unlike = String.join("", a).length() - String.join("", b).length();
        for (int u = 0; u < 4 && unlike == 0; u++) unlike = a[u].length() - b[u].length();
        for (int u = 0; u < 4 && unlike == 0; u++) unlike = a[u].compareTo(b[u]);
        return unlike < 0;
    }

    // ---- terms 1: what solves the equations

    private static void terms01_zeroToFourLettersAtFirst() {
        for (char u : "wxyz".toCharArray()) {
            TwoSides t = Due.with(u + "=" + u);
            Due.be("words of 0 to 4 of a, b, c", t.answers(), 1 + 3 + 9 + 27 + 81);
            Due.same("the first", Due.answer(t, 0), ",,,");
            Due.be("the last one's length", t.answer(120, "wxyz".indexOf(u), -1), 4);
        }
    }

    private static void terms01_allLettersAtFirst() {
        all("one letter", within("x=x", 0, 4, 7, 1, 1, 7), ",a,,", ",b,,", ",c,,");
        Due.be("a letter that it is", Due.with("x=abc").answers(), 1);
        Due.be("five letters are too many", Due.with("x=abcab").answers(), 0);
    }

    private static void terms01_bothSidesOfEachAreAlike() {
        all("letters", Due.with("x=ab"), ",ab,,");
        all("two equations", Due.with("x=yb;y=a"), ",ab,a,");
        all("a third one that none solves", Due.with("x=yb;y=a;a=b"));
        all("the fourth", Due.with("x=ya;y=zb;z=wc;w=a"), "a,acba,acb,ac");
        all("one side longer", Due.with("a="));
        all("without unknowns", Due.with("abc=abc;="), ",,,");
    }

    private static void terms01_anUnknownInNoneIsPutNoLetters() {
        TwoSides t = within("x=xa;y=", 0, 8, 7, 0, 4, 7, 0, 4, 7, 0, 8, 7);
        Due.be("x=xa", t.answers(), 0);
        t = within("x=a", 0, 8, 7, 0, 8, 7, 0, 8, 7, 0, 8, 7);
        all("w, y, z are put none", t, ",a,,");
        tell(t, "", "a", "", "a");
        Due.be("z is put a letter", t.rank(), NONE);
    }

    private static void terms01_itIsWithinItsBoundsToo() {
        for (int u : new int[] {0, 2, 3}) {
            TwoSides t = Due.with("x=a");
            t.bounds(u, 1, 4, 7);
            Due.be("no answers", t.answers(), 0);
            Due.be("no first one", t.answer(0, 1, -1), NONE);
            Due.be("nothing sure", t.sure(1, 0), NONE);
            tell(t, "", "a", "", "");
            Due.be("no rank", t.rank(), NONE);
            t.bounds(u, 0, 0, 0);
            Due.be("again", t.answers(), 1);
            Due.be("the rank", t.rank(), 0);
        }
        TwoSides t = new TwoSides();
        t.bounds(1, 1, 1, 7);
        Due.be("without equations", t.answers(), 0);
    }

    private static void terms01_lengthsOf0() {
        all("x has none", within("wx=wx", 0, 1, 1, 0, 0, 7), ",,,", "a,,,");
    }

    private static void terms01_lengthsOf8() {
        TwoSides t = within("x=x", 0, 0, 7, 8, 8, 7);
        Due.be("3 to the 8", t.answers(), 6561);
        Due.same("the first", Due.answer(t, 0), ",aaaaaaaa,,");
        Due.same("the last", Due.answer(t, 6560), ",cccccccc,,");
    }

    private static void terms01_noLettersMayBe() {
        all("only the empty word", within("x=x", 0, 4, 7, 0, 8, 0), ",,,");
        all("none of length 1", within("x=x", 0, 4, 7, 1, 8, 0));
    }

    private static void terms01_eachLetterHasItsBit() {
        String[] due = {"", "a", "b", "ab", "c", "ac", "bc", "abc"};
        for (int may = 0; may < 8; may++) {
            String[] answers = new String[due[may].length()];
            for (int i = 0; i < answers.length; i++) answers[i] = "," + due[may].charAt(i) + ",,";
            all("letters " + may, within("x=x", 0, 4, 7, 1, 1, may), answers);
        }
    }

    private static void terms01_lettersOfWordsThatAreAlike() {
        all("b alone in both", within("x=y", 0, 4, 7, 1, 2, 3, 0, 8, 6), ",b,b,", ",bb,bb,");
        all("a, which it may not have", within("x=a", 0, 4, 7, 0, 4, 6));
        all("nothing in both", within("x=y", 0, 4, 7, 0, 4, 3, 0, 4, 4), ",,,");
    }

    // ---- terms 2: their order

    private static void terms02_byAllLengthsTogether() {
        all("lengths", within("wx=wx", 0, 2, 1, 0, 2, 1), ",,,", ",a,,", "a,,,", ",aa,,", "a,a,,", "aa,,,", "a,aa,,", "aa,a,,", "aa,aa,,");
    }

    private static void terms02_thenByTheLengthsOfWXYZ() {
        all("of one letter", within("wxyz=a", 0, 1, 7, 0, 1, 7, 0, 1, 7, 0, 1, 7), ",,,a", ",,a,", ",a,,", "a,,,");
        all("of two letters", within("wxyz=ab", 0, 2, 7, 0, 2, 7, 0, 2, 7, 0, 2, 7), ",,,ab", ",,a,b", ",,ab,", ",a,,b", ",a,b,",
            ",ab,,", "a,,,b", "a,,b,", "a,b,,", "ab,,,");
    }

    private static void terms02_thenByLettersOneAfterTheOther() {
        all("letters", within("wx=wx", 1, 1, 5, 1, 1, 6), "a,b,,", "a,c,,", "c,b,,", "c,c,,");
        all("of y, then of z", within("yz=yz", 0, 0, 0, 0, 0, 0, 1, 1, 3, 1, 1, 3), ",,a,a", ",,a,b", ",,b,a", ",,b,b");
        all("the first letter first", within("x=x", 0, 0, 0, 2, 2, 3), ",aa,,", ",ab,,", ",ba,,", ",bb,,");
    }

    private static void terms02_orderOfManyAnswers() {
        TwoSides t = Due.with("wxab=abyz");
        String[] before = null;
        int many = t.answers();
        for (int i = 0; i < many; i += many / 12) {
            String[] now = Due.answer(t, i).split(",", -1);
            Due.same("answer " + i + " solves it", now[0] + now[1] + "ab", "ab" + now[2] + now[3]);
            if (before != null) Due.hold("answer " + i + " is behind those ahead", isAhead(before, now));
            before = now;
        }
    }

    private static void terms02_manyIsMoreThan1000000000() {
        Due.be("some less", within("zwxb=xwzb;wx=wx;yz=yz", 0, 4, 3, 2, 8, 7, 1, 7, 7, 4, 8, 7).answers(), 999999909);
        Due.be("some more", within("ywz=zwy;wx=wx;yz=yz", 3, 8, 7, 0, 4, 5, 0, 7, 7, 0, 8, 7).answers(), MANY);
        Due.be("2 to the 29", within("wxyz=wxyz", 8, 8, 3, 8, 8, 3, 8, 8, 3, 5, 5, 3).answers(), 1 << 29);
        Due.be("2 to the 30", within("wxyz=wxyz", 8, 8, 3, 8, 8, 3, 8, 8, 3, 6, 6, 3).answers(), MANY);
        Due.be("2 to the 31", within("wxyz=wxyz", 8, 8, 3, 8, 8, 3, 8, 8, 3, 7, 7, 3).answers(), MANY);
        Due.be("2 to the 32", within("wxyz=wxyz", 8, 8, 3, 8, 8, 3, 8, 8, 3, 8, 8, 3).answers(), MANY);
        Due.be("all there are", within("wxyz=wxyz", 0, 8, 7, 0, 8, 7, 0, 8, 7, 0, 8, 7).answers(), MANY);
    }

    // ---- promise 7

    private static void promise07_loAndHiAlike() {
        for (int n = 0; n <= 8; n++) {
            TwoSides t = within("x=x", 0, 0, 7, n, n, 1);
            Due.be("one word of " + n, t.answers(), 1);
            Due.be("its length", t.answer(0, 1, -1), n);
        }
    }

    private static void promise07_lo0AndHi8() {
        Due.be("all words", within("x=x", 0, 0, 7, 0, 8, 7).answers(), 9841);
        TwoSides t = within("wxyz=wxyz", 0, 8, 1, 0, 8, 1, 0, 8, 1, 0, 8, 1);
        Due.be("all rows of lengths", t.answers(), 9 * 9 * 9 * 9);
        Due.same("the last", Due.answer(t, 6560), "aaaaaaaa,aaaaaaaa,aaaaaaaa,aaaaaaaa");
    }

    private static void promise07_loAboveHiIsOutside() {
        TwoSides t = Due.with("x=x");
        for (int lo = 1; lo <= 8; lo++) Due.be("lo " + lo, t.bounds(1, lo, lo - 1, 7), OUTSIDE);
        Due.be("far above", t.bounds(1, MOST, LEAST, 7), OUTSIDE);
        Due.be("at first still", t.answers(), 121);
    }

    private static void promise07_loBelow0IsOutside() {
        TwoSides t = Due.with("x=x");
        Due.each("lo", new int[] {LEAST, -2, -1}, lo -> t.bounds(1, lo, 4, 7), OUTSIDE);
        Due.each("both", new int[] {LEAST, -2, -1}, n -> t.bounds(1, n, n, 7), OUTSIDE);
        Due.be("at first still", t.answers(), 121);
    }

    private static void promise07_hiAbove8IsOutside() {
        TwoSides t = Due.with("x=x");
        Due.each("hi", new int[] {9, 10, MOST}, hi -> t.bounds(1, 0, hi, 7), OUTSIDE);
        Due.each("both", new int[] {9, 10, MOST}, n -> t.bounds(1, n, n, 7), OUTSIDE);
        Due.be("at first still", t.answers(), 121);
    }

    private static void promise07_lettersAreThreeBits() {
        TwoSides t = Due.with("x=x");
        Due.each("letters", new int[] {LEAST, -1, 8, 9, 15, MOST}, may -> t.bounds(1, 0, 4, may), OUTSIDE);
        Due.be("at first still", t.answers(), 121);
        for (int may = 0; may < 8; may++) Due.be("letters " + may, t.bounds(1, 0, 4, may), 1);
    }

    private static void promise07_noSuchUnknown() {
        TwoSides t = new TwoSides();
        Due.each("unknown", Due.NO_FOUR, u -> t.bounds(u, 1, 4, 7), UNKNOWN);
        Due.be("nothing changed", t.answers(), 1);
        for (int u = 0; u < 4; u++) Due.be("unknown " + u, t.bounds(u, 0, 4, 7), 1);
    }

    private static void promise07_unknownIsAheadOfOutside() {
        TwoSides t = new TwoSides();
        Due.be("and lo above hi", t.bounds(4, 3, 2, 7), UNKNOWN);
        Due.be("and letters", t.bounds(-1, 0, 4, 8), UNKNOWN);
    }

    private static void promise07_eachUnknownHasItsOwn() {
        for (int u = 0; u < 4; u++) {
            TwoSides t = within("wxyz=wxyz", 0, 0, 7, 0, 0, 7, 0, 0, 7, 0, 0, 7);
            t.bounds(u, 3, 3, 4);
            Due.same("of " + u, Due.answer(t, 0), ",".repeat(u) + "ccc" + ",".repeat(3 - u));
        }
    }

    private static void promise07_theLastOnesHold() {
        TwoSides t = Due.with("x=x");
        int[][] bounds = {{0, 8, 1, 9}, {2, 2, 7, 9}, {0, 4, 7, 121}, {1, 1, 0, 0}, {0, 0, 0, 1}, {0, 0, 7, 1}, {0, 1, 3, 3}};
        for (int[] b : bounds) {
            t.bounds(1, b[0], b[1], b[2]);
            Due.be("answers by " + b[0] + " " + b[1] + " " + b[2], t.answers(), b[3]);
            t.bounds(1, b[0], b[1], b[2]);
            Due.be("and by the same again", t.answers(), b[3]);
        }
    }

    // ---- promise 8

    private static void promise08_thereAreNone() {
        Due.be("letters unlike", Due.with("a=b").answers(), 0);
        Due.be("never as long", Due.with("xx=a").answers(), 0);
        Due.be("two that are at odds", Due.with("x=a;x=b").answers(), 0);
    }

    private static void promise08_thereIsOne() {
        Due.be("no unknowns", Due.with("=").answers(), 1);
        Due.be("no equations", new TwoSides().answers(), 1);
        Due.be("one word", Due.with("x=abca").answers(), 1);
    }

    private static void promise08_howMany() {
        Due.be("in four parts of 0 to 4 each", within("wxyz=abcabcab").answers(), 85);
        Due.be("words that are alike", Due.with("xyx=yxy").answers(), 121);
        Due.be("9841 by 3280", within("wx=wx", 0, 8, 7, 0, 7, 7).answers(), 9841 * 3280);
        Due.be("letters a alone", within("xa=ax", 0, 0, 7, 0, 8, 7).answers(), 9);
    }

    private static void promise08_oneUnknownTwelveTimes() {
        Due.be("96 letters a side", within("xxxxxxxxxxxx=yyyyyyyyyyyy", 0, 0, 0, 8, 8, 7, 8, 8, 7).answers(), 6561);
        Due.be("by fewer than 96", within("xxxxxxxxxxxx=yyyyyyyyyyyy", 0, 0, 0, 0, 8, 7, 0, 8, 7).answers(), 9841);
    }

    private static void promise08_askedAgain() {
        TwoSides t = Due.with("xa=ax");
        for (int n = 0; n < 3; n++) Due.be("answers", t.answers(), 5);
    }

    // ---- promise 9

    private static void promise09_theFirstAndTheLast() {
        TwoSides t = Due.with("wx=ab");
        Due.same("the first", Due.answer(t, 0), ",ab,,");
        Due.same("the last", Due.answer(t, 2), "ab,,,");
        Due.each("behind it", new int[] {3, 4, 100, 999999999}, i -> t.answer(i, 0, -1), NONE);
        Due.each("a letter behind it", new int[] {3, 4, 100, 999999999}, i -> t.answer(i, 0, 0), NONE);
    }

    private static void promise09_whereThereAreNone() {
        TwoSides t = Due.with("a=b");
        Due.each("answer", new int[] {0, 1, 999999999}, i -> t.answer(i, 1, -1), NONE);
    }

    private static void promise09_answersTo999999999() {
        TwoSides t = within("wxy=wxy", 8, 8, 7, 8, 8, 7, 8, 8, 7);
        for (int i : new int[] {0, 1, 3, 6560, 6561, 43046721, 123456789, 999999998, 999999999}) {
            StringBuilder due = new StringBuilder();
            for (int k = 0, rest = i; k < 24; k++, rest /= 3) due.insert(0, (char) ('a' + rest % 3));
            due.insert(16, ',').insert(8, ',').append(',');
            Due.same("answer " + i + " by threes", Due.answer(t, i), due.toString());
        }
    }

    private static void promise09_otherAnswersAreOutside() {
        TwoSides many = within("wxy=wxy", 8, 8, 7, 8, 8, 7, 8, 8, 7), none = Due.with("a=b");
        int[] outside = {LEAST, -2, -1, 1000000000, MANY, MOST};
        Due.each("answer", outside, i -> many.answer(i, 0, -1), OUTSIDE);
        Due.each("answer of none", outside, i -> none.answer(i, 0, -1), OUTSIDE);
    }

    private static void promise09_lengthOrLetter() {
        TwoSides t = Due.with("x=abca");
        int[] due = {4, 0, 1, 2, 0, NONE, NONE};
        for (int k = -1; k < 6; k++) Due.be("k " + k, t.answer(0, 1, k), due[k + 1]);
        Due.be("far", t.answer(0, 1, MOST), NONE);
        t.bounds(1, 8, 8, 4);
        Due.write(t, "x=x");
        t.take();
        Due.be("eight letters", t.answer(0, 1, -1), 8);
        Due.be("the last one", t.answer(0, 1, 7), 2);
        Due.be("behind it", t.answer(0, 1, 8), NONE);
    }

    private static void promise09_noLetterOfAWordWithoutLetters() {
        TwoSides t = new TwoSides();
        for (int u = 0; u < 4; u++) {
            Due.be("length", t.answer(0, u, -1), 0);
            Due.be("letter 0", t.answer(0, u, 0), NONE);
        }
    }

    private static void promise09_kBelowTheLengthIsOutside() {
        TwoSides t = Due.with("x=abca");
        Due.each("k", new int[] {LEAST, -3, -2}, k -> t.answer(0, 1, k), OUTSIDE);
        Due.each("k of no answer", new int[] {LEAST, -3, -2}, k -> t.answer(1, 1, k), OUTSIDE);
    }

    private static void promise09_noSuchUnknown() {
        TwoSides t = Due.with("x=x");
        Due.each("unknown", Due.NO_FOUR, u -> t.answer(0, u, -1), UNKNOWN);
        Due.each("unknown of no answer", Due.NO_FOUR, u -> t.answer(999, u, -1), UNKNOWN);
    }

    private static void promise09_unknownIsAheadOfOutside() {
        TwoSides t = Due.with("x=x");
        Due.be("and i", t.answer(-1, 4, 0), UNKNOWN);
        Due.be("and k", t.answer(0, -1, -2), UNKNOWN);
        Due.be("and both", t.answer(1000000000, 4, -2), UNKNOWN);
    }

    // ---- promise 10

    private static void promise10_noneAtFirst() {
        Due.be("nothing told", Due.with("x=x").rank(), 0);
        Due.be("which is none", Due.with("x=a").rank(), NONE);
    }

    private static void promise10_lengths0To8() {
        TwoSides t = within("x=x", 0, 0, 7, 0, 8, 1);
        for (int n = 0; n <= 8; n++) {
            Due.be("n " + n, t.tell(1, 0, n), 1);
            Due.be("the word of " + n, t.rank(), n);
        }
    }

    private static void promise10_otherLengthsAreOutside() {
        TwoSides t = within("x=x", 0, 0, 7, 0, 8, 7);
        tell(t, "", "b");
        Due.each("n", new int[] {LEAST, -1, 9, 16, 30, MOST}, n -> t.tell(1, 0, n), OUTSIDE);
        Due.be("nothing changed", t.rank(), 2);
    }

    private static void promise10_aLetter3IsOutside() {
        TwoSides t = within("x=x", 0, 0, 7, 0, 8, 7);
        tell(t, "", "b");
        for (int i = 0; i < 8; i++) {
            for (int n = i + 1; n <= 8; n++) Due.be("at " + i + " of " + n, t.tell(1, 3 << 2 * i, n), OUTSIDE);
        }
        Due.be("nothing changed", t.rank(), 2);
    }

    private static void promise10_behindTheWordItDoesNotMatter() {
        TwoSides t = within("x=x", 0, 0, 7, 0, 8, 7);
        for (int n = 0; n < 8; n++) Due.be("behind " + n, t.tell(1, -1 << 2 * n, n), 1);
        Due.be("aaaaaaa", t.rank(), (2187 - 1) / 2);
        Due.be("bits above 16", t.tell(1, -1 << 16, 8), 1);
        Due.be("aaaaaaaa", t.rank(), (6561 - 1) / 2);
    }

    private static void promise10_letterIIsShiftedBy2I() {
        TwoSides t = within("x=x", 0, 0, 7, 8, 8, 7);
        for (int i = 0, threes = 2187; i < 8; i++, threes /= 3) {
            t.tell(1, 1 << 2 * i, 8);
            Due.be("b at " + i, t.rank(), threes);
            t.tell(1, 2 << 2 * i, 8);
            Due.be("c at " + i, t.rank(), 2 * threes);
        }
    }

    private static void promise10_theLastOneTold() {
        TwoSides t = within("x=x", 0, 0, 7, 0, 8, 7);
        tell(t, "", "cccccccc");
        Due.be("the longest", t.rank(), 9840);
        tell(t, "", "b");
        Due.be("a shorter one", t.rank(), 2);
        tell(t, "", "");
        Due.be("none", t.rank(), 0);
    }

    private static void promise10_eachUnknownHasItsOwn() {
        TwoSides t = Due.with("wxyz=abca");
        tell(t, "a", "b", "c", "a");
        Due.same("that answer", Due.answer(t, t.rank()), "a,b,c,a");
        for (int u = 0; u < 4; u++) {
            TwoSides other = Due.with("wxyz=a");
            Due.tell(other, u, "a");
            Due.be("of " + u, other.rank(), 3 - u);
        }
    }

    private static void promise10_noSuchUnknown() {
        TwoSides t = new TwoSides();
        Due.each("unknown", Due.NO_FOUR, u -> t.tell(u, 0, 1), UNKNOWN);
        Due.be("nothing changed", t.rank(), 0);
    }

    private static void promise10_unknownIsAheadOfOutside() {
        TwoSides t = new TwoSides();
        Due.be("and n", t.tell(4, 0, 9), UNKNOWN);
        Due.be("and a letter", t.tell(-1, 3, 1), UNKNOWN);
    }

    // ---- promise 11

    private static void promise11_everyAnswerHasItsRank() {
        TwoSides t = Due.with("wxb=by");
        int many = t.answers();
        for (int i = 0; i < many; i += 1 + many / 10) {
            tell(t, Due.answer(t, i).split(",", -1));
            Due.be("rank", t.rank(), i);
        }
        tell(t, Due.answer(t, many - 1).split(",", -1));
        Due.be("of the last", t.rank(), many - 1);
    }

    private static void promise11_noneIfTheyDoNotSolve() {
        TwoSides t = Due.with("ax=ya");
        tell(t, "", "ba", "ab", "");
        Due.be("they do", t.rank(), 3);
        tell(t, "", "ba", "ba", "");
        Due.be("letters unlike", t.rank(), NONE);
        tell(t, "", "ba", "a", "");
        Due.be("lengths unlike", t.rank(), NONE);
        tell(t, "", "ba", "ab", "a");
        Due.be("a letter of an unknown in none", t.rank(), NONE);
        tell(t, "", "ab", "ab", "");
        Due.be("a letter that is none of the equation's", t.rank(), NONE);
    }

    private static void promise11_noneIfOutOfBounds() {
        TwoSides t = Due.with("x=x");
        tell(t, "", "abca");
        Due.hold("within", t.rank() > 0);
        t.bounds(1, 0, 3, 7);
        Due.be("longer than hi", t.rank(), NONE);
        t.bounds(1, 5, 8, 7);
        Due.be("shorter than lo", t.rank(), NONE);
        t.bounds(1, 4, 4, 3);
        Due.be("a letter that it may not have", t.rank(), NONE);
        t.bounds(1, 4, 4, 7);
        Due.be("within again", t.rank(), 15);
    }

    private static void promise11_noneIfThereAreNoAnswers() {
        Due.be("a=b", Due.with("a=b").rank(), NONE);
    }

    private static void promise11_manyIfNotBelow1000000001() {
        TwoSides t = within("wxyz=wxyz", 8, 8, 7, 8, 8, 7, 8, 8, 7, 8, 8, 7);
        for (int i : new int[] {0, 17, 999999999, 1000000000, 1000000001, 1000000002, 2000000000, MOST}) {
            StringBuilder word = new StringBuilder();
            for (int k = 0, rest = i; k < 32; k++, rest /= 3) word.insert(0, (char) ('a' + rest % 3));
            for (int u = 0; u < 4; u++) Due.tell(t, u, word.substring(8 * u, 8 * u + 8));
            Due.be("rank " + i, t.rank(), Math.min(i, MANY));
        }
    }

    private static void promise11_theLastOfAllIsMany() {
        TwoSides t = within("wxyz=wxyz", 0, 8, 7, 0, 8, 7, 0, 8, 7, 0, 8, 7);
        tell(t, "cccccccc", "cccccccc", "cccccccc", "cccccccc");
        Due.be("rank", t.rank(), MANY);
        tell(t, "", "", "", "");
        Due.be("the first", t.rank(), 0);
    }

    // ---- promise 12

    private static void promise12_aLetterThatAllHaveThere() {
        TwoSides t = Due.with("xy=abcab");
        t.bounds(1, 3, 4, 7);
        int[] due = {0, 1, 2, NONE, NONE, NONE, NONE, NONE};
        for (int p = 0; p < 8; p++) Due.be("place " + p, t.sure(1, p), due[p]);
        for (int p = 0; p < 8; p++) Due.be("of y, place " + p, t.sure(2, p), NONE);
    }

    private static void promise12_allAreLonger() {
        TwoSides t = within("xa=ax", 0, 0, 7, 2, 4, 7);
        Due.be("within all", t.sure(1, 1), 0);
        Due.be("behind the shortest", t.sure(1, 2), NONE);
        t.bounds(1, 0, 4, 7);
        Due.be("one has none", t.sure(1, 0), NONE);
    }

    private static void promise12_places0To7() {
        TwoSides t = within("x=x", 0, 0, 7, 8, 8, 4);
        for (int p = 0; p < 8; p++) Due.be("place " + p, t.sure(1, p), 2);
    }

    private static void promise12_otherPlacesAreOutside() {
        TwoSides t = within("x=x", 0, 0, 7, 8, 8, 4), none = Due.with("a=b");
        Due.each("place", new int[] {LEAST, -1, 8, MOST}, p -> t.sure(1, p), OUTSIDE);
        Due.each("place of no answers", new int[] {LEAST, -1, 8, MOST}, p -> none.sure(1, p), OUTSIDE);
    }

    private static void promise12_noneIfThereAreNoAnswers() {
        TwoSides t = within("x=x", 0, 0, 7, 1, 1, 0);
        Due.be("no letters may be", t.sure(1, 0), NONE);
        Due.be("a=b", Due.with("a=b;x=a").sure(1, 0), NONE);
    }

    private static void promise12_noneOfAWordWithoutLetters() {
        TwoSides t = Due.with("x=a");
        for (int u : new int[] {0, 2, 3}) Due.be("of " + u, t.sure(u, 0), NONE);
        Due.be("of x", t.sure(1, 0), 0);
    }

    private static void promise12_twoLettersThere() {
        Due.be("one letter may be", within("x=x", 0, 0, 7, 2, 3, 4).sure(1, 1), 2);
        Due.be("two may be", within("x=x", 0, 0, 7, 2, 3, 5).sure(1, 1), NONE);
        TwoSides t = within("wx=abca", 1, 2, 7, 2, 3, 7);
        Due.be("b or c", t.sure(1, 0), NONE);
        Due.be("c or a", t.sure(1, 1), NONE);
        Due.be("of w", t.sure(0, 0), 0);
    }

    private static void promise12_noSuchUnknown() {
        TwoSides t = Due.with("x=a");
        Due.each("unknown", Due.NO_FOUR, u -> t.sure(u, 0), UNKNOWN);
    }

    private static void promise12_unknownIsAheadOfOutside() {
        TwoSides t = Due.with("x=a");
        Due.each("place", new int[] {LEAST, -1, 8, MOST}, p -> t.sure(4, p), UNKNOWN);
    }

    private static void promise12_asAllAnswersTell() {
        List<TwoSides> asked = new ArrayList<>();
        for (String text : new String[] {"wxa=axw", "xay=yax", "wbx=xab", "xyab=abyx"}) asked.add(within(text, 1, 3, 7, 1, 3, 7, 1, 3, 7));
        for (TwoSides t : asked) {
            int many = t.answers();
            for (int u = 0; u < 3; u++) {
                int due = many == 0 ? NONE : t.answer(0, u, 0);
                for (int i = 0; i < many && i < 100; i++) if (t.answer(i, u, 0) != due) due = NONE;
                if (many <= 100) Due.be("of " + u + ", by all answers", t.sure(u, 0), due);
                else if (due == NONE) Due.be("of " + u + ", by some answers", t.sure(u, 0), NONE);
            }
        }
    }
}
