import java.lang.reflect.Field;

/** Terms 3 and promises 13 to 17: what comes of an equation by chains of puttings. */
final class ChainsTest {
    private static final int NONE = TwoSides.NONE, UNKNOWN = TwoSides.UNKNOWN, OUTSIDE = TwoSides.OUTSIDE, NOT = TwoSides.NOT,
        SPENT = TwoSides.SPENT;
    private static final int LEAST = Due.LEAST, MOST = Due.MOST;
    /** Of the first 1500 are met, of the second one more. */
    private static final String MOST_MET = "zazx=yxayww", TOO_MANY_MET = "yaxaxww=zyz";

    private ChainsTest() { }

    public static void main(String[] args) throws IllegalAccessException {
        Due.all(ChainsTest.class);
    }

    private static void met(String equation, int due) {
        Due.be("met of " + equation, Due.with(equation).met(0), due);
    }

    private static void fewest(String equation, int due) {
        Due.be("fewest of " + equation, Due.with(equation).fewest(0), due);
    }

    private static void ring(String equation, int due) {
        Due.be("ring of " + equation, Due.with(equation).ring(0), due);
    }

    /** The chain's puttings, a digit each, and the words of w, x, y, z with commas between. */
    private static void chain(String equation, String puttings, String words) {
        TwoSides t = Due.with(equation);
        Due.be("fewest of " + equation, t.fewest(0), puttings.length());
        for (int i = 0; i < puttings.length(); i++) {
            Due.be("putting " + i + " of " + equation, t.putting(0, i), puttings.charAt(i) - '0');
        }
        Due.be("behind the last putting of " + equation, t.putting(0, puttings.length()), NONE);
        StringBuilder found = new StringBuilder();
        for (int u = 0; u < 4; u++) found.append(u == 0 ? "" : ",").append(Due.found(t, 0, u));
        Due.same("words of " + equation, found.toString(), words);
    }

    /** All five calls answer alike for an equation. */
    private static void refused(String what, TwoSides t, int equation, int due) {
        Due.be(what + ": met", t.met(equation), due);
        Due.be(what + ": fewest", t.fewest(equation), due);
        Due.be(what + ": ring", t.ring(equation), due);
        Due.be(what + ": putting", t.putting(equation, 0), due);
        Due.be(what + ": found", t.found(equation, 0, -1), due);
    }

    // ---- terms 3

    private static void terms03_anUnknownTwiceMayBe() {
        for (String e : new String[] {"xx=", "x=x", "=xx", "wwxxyyzz=", "wxyz=wxyz", "zaz=bab"}) {
            Due.hold(e + " may be chased", Due.with(e).met(0) > 0);
        }
    }

    private static void terms03_anUnknownThriceMayNot() {
        for (char u : "wxyz".toCharArray()) {
            for (String e : new String[] {"uuu=", "uu=u", "u=uu", "=uuu", "auauau=", "uuuuuuuuuuuu=uuuuuuuuuuuu"}) {
                refused(e.replace('u', u), Due.with(e.replace('u', u)), 0, NOT);
            }
        }
        refused("one of four", Due.with("wwxxyyz=zz"), 0, NOT);
    }

    private static void terms03_itIsCountedAheadOfStriking() {
        refused("four, all struck", Due.with("xx=xx"), 0, NOT);
        refused("three, of which one is left", Due.with("ax=axx"), 0, NOT);
    }

    private static void terms03_struckWhileBothBeginAlike() {
        met("xy=xy", 1);
        met("abcabcabcabc=abcabcabcabc", 1);
        chain("abcx=abc", "0", ",,,");
        met("abcx=abc", 2);
        met("abcx=abx", 2);
        fewest("abcx=abx", NONE);
        chain("xaby=xab", "0", ",,,");
    }

    private static void terms03_afterAPuttingItIsStruck() {
        // x is put nothing: w=w is struck; else x is put wx, and so x=x
        chain("xw=wx", "0", ",,,");
        met("xw=wx", 2);
    }

    private static void terms03_doneHasNoPuttings() {
        met("=", 1);
        chain("=", "", ",,,");
        chain("abc=abc", "", ",,,");
        chain("zab=zab", "", ",,,");
    }

    private static void terms03_lettersAloneHaveNoPuttings() {
        for (String e : new String[] {"a=", "=a", "a=b", "ax=b", "ax=by", "ax="}) {
            met(e, 1);
            fewest(e, NONE);
        }
    }

    private static void terms03_theOtherSideHasNoItems() {
        for (String e : new String[] {"x=", "=x", "xx=", "=xx"}) {
            met(e, 2);
            chain(e, "0", ",,,");
        }
        met("xa=", 2);
        fewest("xa=", NONE);
    }

    private static void terms03_theOtherSideBeginsWithALetter() {
        // x=a; =a and x= by the two puttings; DONE
        for (String e : new String[] {"x=a", "a=x", "wx=wa", "ax=aa"}) {
            met(e, 4);
            chain(e, "10", ",a,,");
        }
        chain("x=abc", "1110", ",abc,,");
    }

    private static void terms03_bothBeginWithUnknowns() {
        // x=y; =y, x=, x= and =y by the four puttings; DONE
        met("x=y", 4);
        met("y=x", 4);
        chain("x=y", "00", ",,,");
        // y=xy: DONE by x that is put nothing, which is the second side's
        chain("y=xy", "1", ",,,");
        chain("xy=y", "0", ",,,");
        // xx=wa: x is put wx, then w nothing, so xx=a, and so on
        chain("xx=wa", "2010", "a,a,,");
        chain("wa=xx", "2010", "a,a,,");
        // wbw=xc: x is put wx; in xc=wbw it is the first side's, so that it is the third putting
        chain("wbw=xc", "31110", "c,cb,,");
        chain("xc=wbw", "21010", "c,cb,,");
    }

    private static void terms03_equationsOfOtherSidesAreUnlike() {
        // w=xx, =xx, w=, w=x, =xwx, =x, =w and DONE
        met("w=xx", 8);
        met("xx=w", 8);
        // x=y, =y, x= and DONE
        met("x=y", 4);
    }

    private static void terms03_comesFreeByAPutting() {
        // x is put nothing, then w=w is struck: w was not put nothing
        ring("xw=wx", 2);
        // x is put wx: of wx=w is left x=
        ring("x=w", 2);
    }

    private static void terms03_comesFreeByBeingStruckFirst() {
        for (String e : new String[] {"x=x", "xyz=xyz", "wx=w", "yxb=ywx"}) ring(e, 2);
        ring("yxb=yx", NONE);
    }

    private static void terms03_putNothingIsNotFree() {
        for (String e : new String[] {"x=", "=xx", "wxyz=", "x=a", "b=xw", "w=baabbabb"}) ring(e, 0);
    }

    private static void terms03_freeIsOnAWayToDone() {
        // somewhere one comes free, but DONE is not met from there
        ring("baxx=wbwa", 0);
        ring("wx=xb", 1);
        ring("wxb=x", NONE);
    }

    private static void terms03_ringedIsOnAWayToDone() {
        ring("xa=ax", 1);
        ring("aw=wa", 1);
        ring("wab=baw", 1);
        ring("wx=bxccc", 1);
        // equations that come of themselves again are met, but DONE is not met from there
        ring("baxx=wbwa", 0);
        ring("xa=bx", NONE);
        ring("w=aw", NONE);
    }

    private static void terms03_theChainThatComesFirst() {
        // also DONE by "100": w nothing, then x=b with x put bx
        chain("b=xw", "010", "b,,,");
        chain("b=wx", "010", ",b,,");
        chain("x=yz", "000", ",,,");
        chain("xaby=ybax", "010", ",,a,");
    }

    private static void terms03_wordsFromTheEndBack() {
        chain("w=baabbabb", "111111110", "baabbabb,,,");
        chain("yyb=xwax", "23201010", "ab,b,ba,");
        chain("bbawb=xx", "1112111010", "bbba,bbab,,");
        chain("wc=xax", "21010", "ca,c,,");
    }

    // ---- promise 13

    private static void promise13_itselfWithThem() {
        met("=", 1);
        met("a=b", 1);
        met("=a", 1);
        met("x=", 2);
    }

    private static void promise13_howMany() {
        met("x=ab", 6);
        met("w=x", 4);
        met("xa=ax", 2);
        met("wx=xz", 9);
        met("xaby=ybax", 15);
        met("wbzzaxwa=yxybac", 1180);
    }

    private static void promise13_fifteenHundred() {
        TwoSides t = Due.with(MOST_MET);
        Due.be("met", t.met(0), 1500);
        Due.be("fewest", t.fewest(0), 4);
        Due.be("ring", t.ring(0), 2);
        Due.be("the last putting", t.putting(0, 3), 0);
        Due.be("found", t.found(0, 1, -1), 0);
        met("yyxaaaa=waaaaxwazaa", 1500);
    }

    private static void promise13_oneMoreIsSpent() {
        met(TOO_MANY_MET, SPENT);
        met("wzwx=ybyaaxz", SPENT);
        met("wyxxy=azwcbz", SPENT);
    }

    private static void promise13_manyMoreAreSpent() {
        met("awwaaaaaayaa=xaxzaaaz", SPENT);
        met("aabzbaaaaaaz=ybbbbayxwwx", SPENT);
        met("bzwacbaaxwxa=baaabcbyyaaz", SPENT);
    }

    private static void promise13_noSuchEquation() {
        for (int many = 0; many <= 4; many++) {
            TwoSides t = many == 0 ? new TwoSides() : Due.with("x=a;x=a;x=a;x=a".substring(0, 4 * many - 1));
            for (int e = 0; e < 4; e++) Due.be(e + " of " + many, t.met(e), e < many ? 4 : UNKNOWN);
            for (int e : Due.NO_FOUR) refused("equation " + e, t, e, UNKNOWN);
        }
    }

    private static void promise13_eachEquationByItself() {
        TwoSides t = Due.with("x=a;xxx=;" + TOO_MANY_MET + ";=x");
        for (int again = 0; again < 2; again++) {
            Due.be("the fourth", t.met(3), 2);
            Due.be("the first", t.met(0), 4);
            refused("the third", t, 2, SPENT);
            refused("the second", t, 1, NOT);
            Due.be("the first one's fewest", t.fewest(0), 2);
            Due.be("the fourth one's fewest", t.fewest(3), 1);
        }
    }

    private static void promise13_equationsThatAreTakenAnew() {
        TwoSides t = Due.with("x=a;xxx=;" + TOO_MANY_MET);
        refused("the third", t, 2, SPENT);
        Due.write(t, "xxx=;x=ab;x=");
        t.take();
        refused("the first", t, 0, NOT);
        Due.be("the second", t.met(1), 6);
        Due.be("the third", t.met(2), 2);
    }

    private static void promise13_whateverTheBounds() {
        TwoSides t = Due.with("x=ab");
        t.bounds(1, 0, 0, 0);
        Due.be("met", t.met(0), 6);
        Due.be("fewest", t.fewest(0), 3);
        Due.be("found", t.found(0, 1, -1), 2);
        Due.be("but no answers", t.answers(), 0);
    }

    // ---- promise 14

    private static void promise14_noPuttingsAtTheLeast() {
        fewest("=", 0);
        fewest("wxab=wxab", 0);
    }

    private static void promise14_howMany() {
        fewest("x=", 1);
        fewest("wxyz=", 4);
        fewest("abbbba=w", 7);
        fewest("bbawb=xx", 10);
        fewest("xa=ax", 1);
    }

    private static void promise14_noneIfThereIsNoAnswer() {
        for (String e : new String[] {"a=b", "a=", "xa=bx", "wxb=x", "w=aw", "xaxa=yay"}) fewest(e, NONE);
        fewest("wbzzaxwa=yxybac", NONE);
    }

    private static void promise14_refused() {
        TwoSides t = Due.with("xxx=;" + TOO_MANY_MET);
        Due.each("equation", new int[] {LEAST, -1, 2, 3, 4, MOST}, t::fewest, UNKNOWN);
        Due.be("thrice", t.fewest(0), NOT);
        Due.be("too many", t.fewest(1), SPENT);
    }

    private static void promise14_eachEquationByItself() {
        TwoSides t = Due.with("x=ab;a=b;=;xa=bx");
        int[] due = {3, NONE, 0, NONE};
        for (int n = 0; n < 8; n++) Due.be("fewest of " + n % 4, t.fewest(n % 4), due[n % 4]);
    }

    // ---- promise 15

    private static void promise15_freeIsAheadOfRinged() {
        // both: xw=wx comes of itself when x is put wx
        ring("xw=wx", 2);
        ring("yxb=ywx", 2);
    }

    private static void promise15_elseRinged() {
        ring("xa=ax", 1);
        ring("wa=yxw", 1);
    }

    private static void promise15_neither() {
        ring("=", 0);
        ring("ab=ab", 0);
        ring("xy=", 0);
        ring("xy=abc", 0);
    }

    private static void promise15_freeByOnePuttingAlone() {
        // x is put nothing, then w=w is struck; no other putting frees one
        ring("xw=w", 2);
        // far from the first equation
        ring("x=ww", 2);
        ring("xx=wa", 2);
    }

    private static void promise15_manyEquationsAndNoRing() {
        ring("xyw=a", 0);
        ring("wxyz=ab", 0);
        ring("abbbba=w", 0);
    }

    private static void promise15_eachEquationByItself() {
        String[] texts = {"=w;=wa", "w=b;xa=wx", "w=b;=xyw", "aw=wa;=w", "xw=wx;w=a", "xx=wa;baxx=wbwa", "xwy=wy;w="};
        int[] due = {NONE, 1, 0, 0, 0, 0, 0};
        for (int i = 0; i < texts.length; i++) {
            TwoSides t = Due.with(texts[i]);
            Due.hold("the first of " + texts[i], t.ring(0) >= 0);
            Due.be("then the second of " + texts[i], t.ring(1), due[i]);
        }
        int[] rings = {2, 1, 0, NONE};
        TwoSides t = Due.with("xy=yx;xa=ax;x=ab;xa=bx");
        for (int n = 0; n < 4; n++) Due.be("ring of " + n, t.ring(n), rings[n]);
        t = Due.with("xa=bx;x=ab;xa=ax;xy=yx");
        for (int n = 0; n < 4; n++) Due.be("ring of " + n + " the other way round", t.ring(n), rings[3 - n]);
    }

    private static void promise15_noneIfThereIsNoAnswer() {
        for (String e : new String[] {"a=b", "xa=bx", "wxb=x", "w=aw", "xa=x"}) ring(e, NONE);
    }

    private static void promise15_refused() {
        TwoSides t = Due.with("xxx=;" + TOO_MANY_MET);
        Due.each("equation", new int[] {LEAST, -1, 2, 3, 4, MOST}, t::ring, UNKNOWN);
        Due.be("thrice", t.ring(0), NOT);
        Due.be("too many", t.ring(1), SPENT);
    }

    // ---- promise 16

    private static void promise16_from0() {
        TwoSides t = Due.with("w=ba");
        int[] due = {1, 1, 0};
        for (int i = 0; i < 3; i++) Due.be("putting " + i, t.putting(0, i), due[i]);
    }

    private static void promise16_behindTheLastIsNone() {
        TwoSides t = Due.with("w=ba");
        Due.each("putting", new int[] {3, 4, 1500, MOST}, i -> t.putting(0, i), NONE);
    }

    private static void promise16_noneOfAChainWithoutPuttings() {
        for (String e : new String[] {"=", "xa=xa"}) Due.be("putting 0 of " + e, Due.with(e).putting(0, 0), NONE);
    }

    private static void promise16_noneIfThereIsNoAnswer() {
        for (String e : new String[] {"a=b", "xa=bx", "wxb=x"}) Due.be("putting 0 of " + e, Due.with(e).putting(0, 0), NONE);
    }

    private static void promise16_below0IsOutside() {
        for (String e : new String[] {"w=ba", "=", "a=b"}) {
            TwoSides t = Due.with(e);
            Due.each("putting", new int[] {LEAST, -2, -1}, i -> t.putting(0, i), OUTSIDE);
        }
    }

    private static void promise16_allFourPuttings() {
        chain("yyb=xwax", "23201010", "ab,b,ba,");
    }

    private static void promise16_refusedInOrder() {
        TwoSides t = Due.with("xxx=;" + TOO_MANY_MET);
        Due.each("equation", new int[] {LEAST, -1, 2, 3, 4, MOST}, e -> t.putting(e, 0), UNKNOWN);
        Due.each("equation ahead of i", new int[] {LEAST, -1, 2, 3, 4, MOST}, e -> t.putting(e, -1), UNKNOWN);
        Due.be("i ahead of thrice", t.putting(0, -1), OUTSIDE);
        Due.be("thrice", t.putting(0, 0), NOT);
        Due.be("thrice, far", t.putting(0, MOST), NOT);
        Due.be("i ahead of too many", t.putting(1, -1), OUTSIDE);
        Due.be("too many", t.putting(1, 0), SPENT);
        Due.be("too many, far", t.putting(1, MOST), SPENT);
    }

    // ---- promise 17

    private static void promise17_lengthOrLetter() {
        TwoSides t = Due.with("w=bac");
        int[] due = {3, 1, 0, 2, NONE, NONE};
        for (int k = -1; k < 5; k++) Due.be("k " + k, t.found(0, 0, k), due[k + 1]);
        Due.each("far", new int[] {300, 301, MOST}, k -> t.found(0, 0, k), NONE);
    }

    private static void promise17_anUnknownThatIsNotInItHasNoLetters() {
        TwoSides t = Due.with("w=bac;x=y");
        for (int u = 1; u < 4; u++) {
            Due.be("length of " + u, t.found(0, u, -1), 0);
            Due.be("letter of " + u, t.found(0, u, 0), NONE);
        }
        Due.be("in none of both", t.found(1, 3, -1), 0);
    }

    private static void promise17_anUnknownThatComesFreeHasNoLetters() {
        TwoSides t = Due.with("xa=xa");
        Due.be("length", t.found(0, 1, -1), 0);
        Due.be("letter", t.found(0, 1, 0), NONE);
    }

    private static void promise17_aLongWord() {
        TwoSides t = Due.with("w=abcabcabcabc");
        Due.be("length", t.found(0, 0, -1), 12);
        Due.same("it", Due.found(t, 0, 0), "abcabcabcabc");
        chain("wbyaabwabxay=aacccaacazcz", "111111111013111111111111111112011111111111110",
            "aacccaaca,cbabaacccaacaab,abaacccaacaab,babaacccaacaabaabaacccaacaab");
        chain("yybccabbbacz=baabbaaaaxbx", "111111111311111111120111111111111111111111111110",
            ",ccabbbacbaabbaaaaccabbbac,baabbaaaaccabbbac,baabbaaaaccabbbac");
    }

    private static void promise17_eachEquationByItself() {
        TwoSides t = Due.with("w=abca;x=c;yz=ab;a=b");
        String[][] due = {{"abca", "", "", ""}, {"", "c", "", ""}, {"", "", "", "ab"}, {"none", "none", "none", "none"}};
        for (int n = 0; n < 8; n++) {
            for (int u = 0; u < 4; u++) Due.same("equation " + n % 4 + ", unknown " + u, Due.found(t, n % 4, u), due[n % 4][u]);
        }
    }

    private static void promise17_theWordsSolveIt() {
        String[] solvable = {"xaby=ybax", "wxyabc=abcyxw", "xxab=abyy", "accbbbczbz=xabbwyaabxaa", "wbywbaaacxay=acaaacccczbz",
            "zczbcbbaaaax=bcbcaccawbwa", "yybccabbbacz=baabbaaaaxbx", "xawabcaacaba=bcbbacyccyax", "baaccbcyxybz=xabcbbcbcwaw"};
        for (String equation : solvable) {
            TwoSides t = Due.with(equation);
            String[] words = new String[4], sides = equation.split("=", -1);
            for (int u = 0; u < 4; u++) words[u] = Due.found(t, 0, u);
            Due.same("both sides of " + equation, Slow.put(sides[0], words), Slow.put(sides[1], words));
        }
    }

    /**
     * An object whose equation 0 has a chain made up here: from its end back x is put nothing, then c x so often, then
     * w is put x w so often. No equation is known by which a word comes to be so long, so this is laid inside.
     */
    private static TwoSides withChain(int lettersOfX, int wordsAheadOfW) throws ReflectiveOperationException {
        TwoSides t = Due.with("x=");
        Due.be("met", t.met(0), 2);
        int w = 4, x = 5, nothing = -1, c = 2;
        int[] steps = new int[1500];
        int many = 0;
        steps[many++] = step(x, nothing);
        for (int i = 0; i < lettersOfX; i++) steps[many++] = step(x, c);
        for (int i = 0; i < wordsAheadOfW; i++) steps[many++] = step(w, x);
        Object chase = inside(TwoSides.class, t, "chase");
        ((int[][]) inside(chase.getClass(), chase, "steps"))[0] = steps;
        ((int[]) inside(chase.getClass(), chase, "manyPut"))[0] = many;
        return t;
    }

    private static int step(int unknown, int put) {
        return unknown << 2 | put + 1 << 5;
    }

    private static Object inside(Class<?> type, Object o, String name) throws ReflectiveOperationException {
        Field field = type.getDeclaredField(name);
        field.setAccessible(true);
        return field.get(o);
    }

    private static void promise17_aWordOf300Letters() throws ReflectiveOperationException {
        TwoSides t = withChain(300, 1);
        for (int u = 0; u < 2; u++) {
            Due.be("length", t.found(0, u, -1), 300);
            Due.be("its first letter", t.found(0, u, 0), 2);
            Due.be("its last letter", t.found(0, u, 299), 2);
            Due.be("behind it", t.found(0, u, 300), NONE);
        }
        t = withChain(150, 2);
        Due.be("by two words", t.found(0, 0, -1), 300);
        Due.be("its first letter", t.found(0, 0, 0), 2);
        Due.be("its last letter", t.found(0, 0, 299), 2);
        Due.be("of another unknown", t.found(0, 3, -1), 0);
    }

    private static void promise17_oneLetterMoreIsSpent() throws ReflectiveOperationException {
        for (TwoSides t : new TwoSides[] {withChain(301, 0), withChain(43, 7), withChain(300, 2), withChain(2, 151)}) {
            for (int k : new int[] {-1, 0, 299, 300, 301, MOST}) Due.be("k " + k, t.found(0, 0, k), SPENT);
            Due.be("of another unknown", t.found(0, 1, -1), SPENT);
            Due.be("k ahead of that", t.found(0, 0, -2), OUTSIDE);
            Due.be("the unknown ahead of that", t.found(0, 4, -1), UNKNOWN);
            Due.be("met all the same", t.met(0), 2);
        }
    }

    private static void promise17_noneIfThereIsNoAnswer() {
        for (String e : new String[] {"a=b", "xa=bx", "wxb=x"}) {
            TwoSides t = Due.with(e);
            for (int u = 0; u < 4; u++) {
                Due.be("length by " + e, t.found(0, u, -1), NONE);
                Due.be("letter by " + e, t.found(0, u, 0), NONE);
            }
        }
    }

    private static void promise17_kBelowTheLengthIsOutside() {
        for (String e : new String[] {"w=ba", "=", "a=b"}) {
            TwoSides t = Due.with(e);
            Due.each("k", new int[] {LEAST, -3, -2}, k -> t.found(0, 0, k), OUTSIDE);
        }
    }

    private static void promise17_refusedInOrder() {
        TwoSides t = Due.with("xxx=;" + TOO_MANY_MET);
        Due.each("equation", new int[] {LEAST, -1, 2, 3, 4, MOST}, e -> t.found(e, 0, -1), UNKNOWN);
        Due.each("equation ahead of k", new int[] {LEAST, -1, 2, 3, 4, MOST}, e -> t.found(e, 0, -2), UNKNOWN);
        for (int e = 0; e < 2; e++) {
            for (int u : Due.NO_FOUR) {
                Due.be("unknown " + u, t.found(e, u, -1), UNKNOWN);
                Due.be("unknown ahead of k", t.found(e, u, -2), UNKNOWN);
            }
        }
        Due.be("k ahead of thrice", t.found(0, 1, -2), OUTSIDE);
        Due.be("thrice", t.found(0, 1, 0), NOT);
        Due.be("k ahead of too many", t.found(1, 1, -2), OUTSIDE);
        Due.be("too many", t.found(1, 1, 0), SPENT);
        Due.be("too many, far", t.found(1, 1, MOST), SPENT);
    }
}
