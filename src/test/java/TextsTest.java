/** Terms 1 and promises 1 to 6: the text, its faults, and the equations that it becomes. */
final class TextsTest {
    private static final int NONE = TwoSides.NONE, UNKNOWN = TwoSides.UNKNOWN, OUTSIDE = TwoSides.OUTSIDE, NOT = TwoSides.NOT,
        FULL = TwoSides.FULL;
    private static final String ITEMS = "abcwxyz", TWELVE = "abcwxyzabcwx";

    private TextsTest() { }

    public static void main(String[] args) throws IllegalAccessException {
        Due.all(TextsTest.class);
    }

    /** The fault of a text, and that it is not changed by asking. */
    private static void fault(String text, int due) {
        TwoSides t = new TwoSides();
        Due.write(t, text);
        String told = text.length() > 12 ? text.length() + " bytes " + text : "<" + text + ">";
        Due.be("fault of " + told, t.fault(), due);
        Due.be("fault again of " + told, t.fault(), due);
        Due.be("bytes of " + told, t.count(1), text.length());
    }

    /** Each byte behind a text gives a fault there, but for those told, with which there is none, and those left out. */
    private static void bytesBehind(String text, String end, String those, String leftOut) {
        for (int b = 0; b < 256; b++) {
            if (leftOut.indexOf(b) < 0) fault(text + (char) b + end, those.indexOf(b) >= 0 ? NONE : text.length());
        }
    }

    /** The equations that a text becomes are as told, without blanks. */
    private static void becomes(String text, String due) {
        TwoSides t = new TwoSides();
        Due.write(t, text);
        String[] equations = due.split(";", -1);
        Due.be("take of " + text, t.take(), equations.length);
        for (int e = 0; e < equations.length; e++) {
            String[] sides = equations[e].split("=", -1);
            for (int s = 0; s < 2; s++) Due.same(text + " " + e + " " + s, Due.side(t, e, s), sides[s]);
        }
        Due.be("no equation behind the last of " + text, t.item(equations.length, 0, 0), UNKNOWN);
    }

    // ---- terms 1

    private static void terms01_theLettersAreABC() {
        TwoSides t = Due.with("abc=cba");
        for (int l = 0; l < 3; l++) {
            Due.be("letter " + l, t.item(0, 0, l), l);
            Due.be("letter " + l, t.item(0, 1, 2 - l), l);
        }
    }

    private static void terms01_theUnknownsAreWXYZ() {
        TwoSides t = Due.with("wxyz=zyxw");
        for (int u = 0; u < 4; u++) {
            Due.be("unknown " + u, t.item(0, 0, u), 4 + u);
            Due.be("unknown " + u, t.item(0, 1, 3 - u), 4 + u);
        }
    }

    private static void terms01_noOtherByteCanBeginAText() {
        bytesBehind("", "=", ITEMS + " ", "=");
        bytesBehind("", "", "=", ITEMS + " ");
    }

    private static void terms01_noOtherByteCanStandBehindAnItem() {
        bytesBehind("a", "=", ITEMS + " ", "=");
        bytesBehind("w", "", "=", ITEMS + " ");
    }

    private static void terms01_noOtherByteCanStandBehindTheEqualsSign() {
        bytesBehind("x=", "", ITEMS + " ", ";");
        bytesBehind("x=", "=", ";", ITEMS + " ");
    }

    private static void terms01_noOtherByteCanStandBehindTheSecondSide() {
        bytesBehind("x=z", "", ITEMS + " ", ";");
        bytesBehind("x=z", "=", ";", ITEMS + " ");
    }

    private static void terms01_noOtherByteCanStandBehindASemicolon() {
        bytesBehind("=;", "=", ITEMS + " ", "=");
        bytesBehind("=;", "", "=", ITEMS + " ");
    }

    private static void terms01_noOtherByteCanStandInTheFourthEquation() {
        bytesBehind("=;=;=;", "=", ITEMS + " ", "=");
        bytesBehind("=;=;=;=", "", ITEMS + " ", "");
    }

    private static void terms01_unknownsAndLettersAreSmall() {
        for (char c : "ABCWXYZ".toCharArray()) fault("x=" + c, 2);
    }

    private static void terms01_aBlankAnywhereDoesNotMatter() {
        String text = "ax=yb;=cz";
        for (int i = 0; i <= text.length(); i++) {
            becomes(text.substring(0, i) + " " + text.substring(i), text);
            becomes(text.substring(0, i) + "     " + text.substring(i), text);
        }
    }

    private static void terms01_manyBlanksDoNotMatter() {
        becomes(" ".repeat(48) + "x=yb" + " ".repeat(48), "x=yb");
        becomes("x" + " ".repeat(97) + "=b", "x=b");
    }

    private static void terms01_blanksAreBytesOfTheText() {
        TwoSides t = new TwoSides();
        Due.be("a blank", t.write(32, 1), 1);
        Due.be("eight more", t.write(Due.bytes(" x = a  "), 8), 9);
        Due.be("bytes", t.count(1), 9);
        Due.be("erased", t.erase(), 9);
    }

    private static void terms01_noItemsOnASide() {
        becomes("=", "=");
        becomes("x=", "x=");
        becomes("=x", "=x");
        becomes("=;x=;=x;=", "=;x=;=x;=");
    }

    private static void terms01_twelveItemsOnASide() {
        for (String ahead : new String[] {"", "=;", "=;x=a;", "=;=;=;"}) {
            becomes(ahead + TWELVE + "=", ahead + TWELVE + "=");
            becomes(ahead + "=" + TWELVE, ahead + "=" + TWELVE);
            becomes(ahead + TWELVE + "=" + TWELVE, ahead + TWELVE + "=" + TWELVE);
        }
    }

    private static void terms01_aThirteenthItemCannotStand() {
        for (String ahead : new String[] {"", "=;", "=;x=a;", "=;=;=;"}) {
            for (char item : ITEMS.toCharArray()) {
                fault(ahead + TWELVE + item + "=", ahead.length() + 12);
                fault(ahead + "=" + TWELVE + item, ahead.length() + 13);
                fault(ahead + TWELVE + "=" + TWELVE + item, ahead.length() + 25);
            }
        }
        fault("wwwwwwwwwwwwww", 12);
    }

    private static void terms01_blanksAreNoItems() {
        becomes("a b c w x y z a b c w x =            ", TWELVE + "=");
        fault("a b c w x y z a b c w x    y=", 27);
    }

    private static void terms01_oneEquationAtLeast() {
        fault("", 0);
        becomes("=", "=");
    }

    private static void terms01_fourEquationsAtMost() {
        becomes("x=a;y=b;z=c;w=", "x=a;y=b;z=c;w=");
        becomes("=;=;=;=", "=;=;=;=");
    }

    private static void terms01_aSemicolonBehindTheFourthCannotStand() {
        fault("=;=;=;=;", 7);
        fault("=;=;=;=;=", 7);
        fault("x=a;y=b;z=c;w=abc ;", 18);
    }

    private static void terms01_aSecondEqualsSignCannotStand() {
        fault("x=y=", 3);
        fault("==", 1);
        fault("= =", 2);
        fault("=;=;=;=a=", 8);
    }

    private static void terms01_aSemicolonCannotStandAheadOfTheEqualsSign() {
        fault(";", 0);
        fault("x;=", 1);
        fault("=;;", 2);
        fault("=;ax;", 4);
    }

    private static void terms01_theFirstOfSeveralFaults() {
        fault("x=d;;==e", 2);
        fault("x=a=d", 3);
        fault("x=a;;d", 4);
        fault(TWELVE + "ad", 12);
        fault("D;", 0);
    }

    private static void terms01_aTextThatComesToItsEndTooSoon() {
        fault("", 0);
        fault("x", 1);
        fault(TWELVE, 12);
        fault("=;", 2);
        fault("=;x", 3);
        fault("=;=;=;", 6);
    }

    private static void terms01_theEndIsBehindTheBlanks() {
        fault(" ", 1);
        fault("x   ", 4);
        fault("=;  ", 4);
        fault(" ".repeat(100), 100);
        fault("x" + " ".repeat(99), 100);
    }

    private static void terms01_theFaultOfAFullText() {
        fault(" ".repeat(99) + "=", NONE);
        fault("=" + " ".repeat(98) + "=", 99);
        fault("=" + " ".repeat(98) + ";", 100);
        fault("d" + " ".repeat(99), 0);
    }

    // ---- promise 1

    private static void promise01_noEquations() {
        TwoSides t = new TwoSides();
        Due.be("equations", t.count(0), 0);
        Due.be("unknowns", t.count(2), 0);
        for (int e = -1; e < 5; e++) Due.be("item of " + e, t.item(e, 0, 0), UNKNOWN);
    }

    private static void promise01_noText() {
        TwoSides t = new TwoSides();
        Due.be("bytes", t.count(1), 0);
        Due.be("fault", t.fault(), 0);
        Due.be("erase", t.erase(), 0);
    }

    private static void promise01_theOnlyAnswerIsWithoutLetters() {
        TwoSides t = new TwoSides();
        Due.be("answers", t.answers(), 1);
        Due.same("it", Due.answer(t, 0), ",,,");
        Due.be("rank of nothing told", t.rank(), 0);
        Due.be("nothing is sure", t.sure(0, 0), NONE);
    }

    private static void promise01_noWordsPatternsAndSamples() {
        TwoSides t = new TwoSides();
        for (int i = 0; i < 4; i++) {
            Due.be("letters of a word", t.of(i, 0), 0);
            Due.be("a pattern without items", t.makes(i, 0), NOT);
        }
        Due.be("patterns", t.count(4), 0);
        Due.be("samples", t.count(3), 0);
        Due.be("common", t.common(-1), NOT);
    }

    private static void promise01_objectsAreApart() {
        TwoSides one = State.full("x=a"), other = new TwoSides();
        Due.same("a new object beside a full one", State.told(other), State.told(new TwoSides()));
        Due.same("a full one beside a new one", State.told(one), State.told(State.full("x=a")));
    }

    private static void promise01_theConstants() {
        int[] constants = {NONE, UNKNOWN, OUTSIDE, NOT, FULL, TwoSides.SPENT, TwoSides.MANY};
        int[] due = {-1, -2, -3, -4, -5, -6, 1000000001};
        for (int i = 0; i < due.length; i++) Due.be("constant " + i, constants[i], due[i]);
    }

    // ---- promise 2

    private static void promise02_oneByteIsTheLeast() {
        TwoSides t = new TwoSides();
        Due.be("n 1", t.write(Due.bytes("=xxxxxxx"), 1), 1);
        Due.be("that byte", t.fault(), NONE);
    }

    private static void promise02_eightBytesAreTheMost() {
        TwoSides t = new TwoSides();
        Due.be("n 8", t.write(Due.bytes("xyzw=abc"), 8), 8);
        Due.be("taken", t.take(), 1);
        Due.same("left", Due.side(t, 0, 0), "xyzw");
        Due.same("right", Due.side(t, 0, 1), "abc");
    }

    private static void promise02_otherNumbersOfBytesAreOutside() {
        TwoSides t = new TwoSides();
        Due.each("n", new int[] {Due.LEAST, -8, -1, 0, 9, 16, 100, Due.MOST}, n -> t.write(Due.bytes("=       "), n), OUTSIDE);
        Due.be("nothing is written", t.count(1), 0);
    }

    private static void promise02_howManyItHas() {
        TwoSides t = new TwoSides();
        for (int n = 1, all = 1; n <= 8; n++, all += n) Due.be("n " + n, t.write(Due.bytes("aaaaaaaa"), n), all);
    }

    private static void promise02_byteIIsShiftedBy8I() {
        for (int i = 0; i < 8; i++) {
            TwoSides t = new TwoSides();
            t.write(Due.bytes("aaaaaaaa") + ((long) ('=' - 'a') << 8 * i), 8);
            t.take();
            Due.same("ahead of byte " + i, Due.side(t, 0, 0), "a".repeat(i));
            Due.same("behind byte " + i, Due.side(t, 0, 1), "a".repeat(7 - i));
        }
    }

    private static void promise02_bytesBehindNDoNotMatter() {
        TwoSides t = new TwoSides();
        Due.be("two", t.write(Due.bytes("x=") | -1L << 16, 2), 2);
        Due.be("no fault", t.fault(), NONE);
    }

    private static void promise02_allEightBitsOfAByteMatter() {
        for (int i = 0; i < 8; i++) {
            TwoSides t = new TwoSides();
            t.write(Due.bytes("=aaaaaaa") | 128L << 8 * i, 8);
            Due.be("byte " + i + " with 128 more", t.fault(), i);
        }
        TwoSides t = new TwoSides();
        Due.be("all bits", t.write(-1L, 8), 8);
        Due.be("their fault", t.fault(), 0);
    }

    private static void promise02_aHundredBytesStand() {
        TwoSides t = new TwoSides();
        for (int i = 1; i <= 12; i++) Due.be("eights", t.write(Due.bytes("        "), 8), 8 * i);
        Due.be("the last four", t.write(Due.bytes("x=ab"), 4), 100);
        Due.be("taken", t.take(), 1);
        Due.same("right", Due.side(t, 0, 1), "ab");
    }

    private static void promise02_oneMoreIsFull() {
        TwoSides t = State.blanks(100);
        for (int n = 1; n <= 8; n++) Due.be("n " + n, t.write(Due.bytes("========"), n), FULL);
        Due.be("still a hundred", t.count(1), 100);
        Due.be("still blank", t.fault(), 100);
    }

    private static void promise02_whatDoesNotFitWholeIsFull() {
        for (int room = 0; room < 8; room++) {
            TwoSides t = State.blanks(100 - room);
            Due.be("room " + room, t.write(Due.bytes("========"), room + 1), FULL);
            Due.be("nothing is written, room " + room, t.count(1), 100 - room);
            Due.be("still blank, room " + room, t.fault(), 100 - room);
            if (room > 0) Due.be("what fits, room " + room, t.write(Due.bytes("        "), room), 100);
        }
    }

    private static void promise02_outsideIsAheadOfFull() {
        TwoSides t = State.blanks(100);
        Due.each("n", new int[] {Due.LEAST, -1, 0, 9, Due.MOST}, n -> t.write(0, n), OUTSIDE);
    }

    private static void promise02_thereIsRoomAgainOfAnEmptyText() {
        TwoSides erased = State.blanks(100), taken = State.blanks(99), told = State.blanks(99);
        erased.erase();
        Due.be("erased", erased.write(0, 8), 8);
        taken.write('=', 1);
        taken.take();
        Due.be("taken", taken.write(0, 8), 8);
        told.write('x', 1);
        told.pattern(0);
        Due.be("a pattern", told.write(0, 8), 8);
    }

    // ---- promise 3

    private static void promise03_ofAnEmptyText() {
        TwoSides t = new TwoSides();
        Due.be("erase", t.erase(), 0);
        Due.be("erase again", t.erase(), 0);
    }

    private static void promise03_ofAFullText() {
        TwoSides t = State.blanks(100);
        Due.be("erase", t.erase(), 100);
        Due.be("bytes", t.count(1), 0);
        Due.be("erase again", t.erase(), 0);
    }

    private static void promise03_nothingOfItIsLeft() {
        TwoSides t = new TwoSides();
        Due.write(t, "dddddddd");
        t.erase();
        Due.be("its end", t.fault(), 0);
        Due.write(t, "x=");
        Due.be("taken", t.take(), 1);
        Due.same("left", Due.side(t, 0, 0), "x");
        Due.same("right", Due.side(t, 0, 1), "");
    }

    private static void promise03_theEquationsStand() {
        TwoSides t = State.full("x=a");
        t.erase();
        Due.same("all else", State.told(t), State.told(State.full("")));
    }

    // ---- promise 4

    private static void promise04_theTextIsNotChanged() {
        for (String text : new String[] {"", "x=a", "x=a=", "x=a;", "  "}) {
            TwoSides t = State.full(text);
            t.fault();
            Due.same("after the fault of " + text, State.told(t), State.told(State.full(text)));
        }
    }

    private static void promise04_noneIfThereIsNone() {
        fault("x=a", NONE);
        fault("=", NONE);
    }

    private static void promise04_ofAFullTextOfEquations() {
        String full = "abcabcabcabc=wxyzwxyzwxyz;".repeat(3) + "abcabcabcab=wxyzwxyzwx";
        Due.be("its length", full.length(), 100);
        fault(full, NONE);
        fault(full.substring(0, 99) + "v", 99);
        fault(full.substring(0, 99) + ";", 99);
        fault(full.substring(0, 99) + "=", 99);
    }

    // ---- promise 5

    private static void promise05_ofAnEmptyTextIsNot() {
        TwoSides t = new TwoSides();
        Due.be("take", t.take(), NOT);
        Due.be("no equations", t.count(0), 0);
    }

    private static void promise05_ofATextWithAFaultIsNot() {
        for (String text : new String[] {"x", "x=a=", "=;", ";", "x=d", TWELVE + "a=", "  "}) {
            TwoSides t = Due.with("ab=y");
            Due.write(t, text);
            Due.be("take of " + text, t.take(), NOT);
            Due.be("the text stands", t.count(1), text.length());
            Due.same("the equation stands", Due.side(t, 0, 0), "ab");
        }
    }

    private static void promise05_howMany() {
        TwoSides t = new TwoSides();
        String[] texts = {"=", "=;x=a", "=;=;a=x", "=;=;=;z=z"};
        for (int i = 0; i < 4; i++) {
            Due.write(t, texts[i]);
            Due.be("take of " + texts[i], t.take(), i + 1);
            Due.be("so many", t.count(0), i + 1);
            Due.be("the text is empty", t.count(1), 0);
        }
    }

    private static void promise05_theEquationsAheadAreGone() {
        TwoSides t = Due.with(TWELVE + "=" + TWELVE + ";x=a;y=b;w=");
        Due.write(t, "=c;a=");
        Due.be("two instead of four", t.take(), 2);
        Due.same("left", Due.side(t, 0, 0), "");
        Due.same("right", Due.side(t, 0, 1), "c");
        Due.same("left of the second", Due.side(t, 1, 0), "a");
        Due.same("right of the second", Due.side(t, 1, 1), "");
        for (int e = 2; e < 4; e++) Due.be("equation " + e, t.item(e, 0, 0), UNKNOWN);
        Due.be("no unknowns", t.count(2), 0);
    }

    private static void promise05_theEquationsAheadDoNotHoldAnyMore() {
        TwoSides t = Due.with("x=a;y=b;z=c;a=b");
        Due.be("at odds", t.answers(), 0);
        Due.write(t, "x=x;y=y");
        t.take();
        Due.be("two of 121", t.answers(), 121 * 121);
        Due.be("two unknowns", t.count(2), 2);
        Due.write(t, "z=z");
        t.take();
        Due.be("one of 121", t.answers(), 121);
        Due.same("the second", Due.answer(t, 1), ",,,a");
        t = Due.with("=;z=b;z=b;z=b");
        Due.write(t, "z=z");
        t.take();
        Due.be("of the same unknown", t.answers(), 121);
        Due.same("any letter", Due.answer(t, 1), ",,,a");
    }

    private static void promise05_aTakenTextIsNotTakenAgain() {
        TwoSides t = Due.with("x=a");
        Due.be("take again", t.take(), NOT);
        Due.same("the equation stands", Due.side(t, 0, 1), "a");
    }

    private static void promise05_allIsFoundAnew() {
        TwoSides t = Due.with("x=a;y=yy");
        Due.be("answers", t.answers(), 1);
        Due.be("sure", t.sure(1, 0), 0);
        Due.be("met", t.met(0), 4);
        Due.be("met", t.met(1), NOT);
        Due.write(t, "x=bc;y=y");
        t.take();
        Due.be("answers", t.answers(), 121);
        Due.be("sure", t.sure(1, 0), 1);
        Due.be("met", t.met(0), 6);
        Due.be("met", t.met(1), 1);
    }

    private static void promise05_boundsAndWordsStand() {
        TwoSides t = new TwoSides();
        t.bounds(1, 2, 2, 6);
        Due.tell(t, 1, "bc");
        Due.write(t, "x=x");
        t.take();
        Due.be("two letters of b, c", t.answers(), 4);
        Due.be("the word told", t.rank(), 1);
    }

    // ---- promise 6

    private static void promise06_everyItemOfEverySide() {
        becomes("xa=bc;=wz;y=;" + TWELVE + "=", "xa=bc;=wz;y=;" + TWELVE + "=");
    }

    private static void promise06_behindTheLastItemIsNone() {
        TwoSides t = Due.with(TWELVE + "=ab");
        Due.be("item 11", t.item(0, 0, 11), 5);
        Due.each("item", new int[] {12, 13, Due.MOST}, i -> t.item(0, 0, i), NONE);
        Due.be("item 1", t.item(0, 1, 1), 1);
        Due.each("item", new int[] {2, 11, 12, Due.MOST}, i -> t.item(0, 1, i), NONE);
    }

    private static void promise06_ofASideWithoutItemsIsNone() {
        TwoSides t = Due.with("=");
        Due.be("left", t.item(0, 0, 0), NONE);
        Due.be("right", t.item(0, 1, 0), NONE);
    }

    private static void promise06_anItemBelow0IsOutside() {
        TwoSides t = Due.with("a=b");
        Due.each("item", new int[] {Due.LEAST, -2, -1}, i -> t.item(0, 0, i), OUTSIDE);
    }

    private static void promise06_theSideIs0Or1() {
        TwoSides t = Due.with("a=b");
        Due.be("side 0", t.item(0, 0, 0), 0);
        Due.be("side 1", t.item(0, 1, 0), 1);
        Due.each("side", new int[] {Due.LEAST, -1, 2, 3, Due.MOST}, s -> t.item(0, s, 0), OUTSIDE);
    }

    private static void promise06_noSuchEquationIsUnknown() {
        for (int many = 0; many <= 4; many++) {
            TwoSides t = many == 0 ? new TwoSides() : Due.with("a=b;a=b;a=b;a=b".substring(0, 4 * many - 1));
            for (int e = 0; e < 4; e++) Due.be(e + " of " + many, t.item(e, 1, 0), e < many ? 1 : UNKNOWN);
            Due.each("equation", Due.NO_FOUR, e -> t.item(e, 1, 0), UNKNOWN);
        }
    }

    private static void promise06_unknownIsAheadOfOutside() {
        TwoSides t = Due.with("a=b");
        Due.be("and the side", t.item(1, 2, 0), UNKNOWN);
        Due.be("and the item", t.item(-1, 0, -1), UNKNOWN);
    }
}
