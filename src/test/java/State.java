/** Objects that hold something of everything, and all that can be told of an object. */
final class State {
    private State() { }

    /** An object in which nothing is at first, with a text behind that; made by fewer than 60 calls. */
    static TwoSides full(String text) {
        TwoSides t = Due.with("wx=xw;awwaaaaaayaa=xaxzaaaz;yyyz=zyyy;xa=ax");
        t.bounds(0, 0, 3, 7);
        t.bounds(1, 1, 4, 5);
        t.bounds(2, 0, 5, 3);
        t.bounds(3, 0, 8, 7);
        String[] told = {"a", "aa", "a", "aa"}, desk = {"abaab", "baaba", "", "cacacb"}, patterns = {"xax", "xyx", "", "wwb"};
        for (int i = 0; i < 4; i++) {
            Due.tell(t, i, told[i]);
            Due.desk(t, i, desk[i]);
            if (!patterns[i].isEmpty()) Due.pattern(t, i, patterns[i]);
        }
        for (String s : new String[] {"aba", "aca", "abbba", "acaaca", "aaa", "abcabcaa"}) Due.sample(t, s);
        Due.write(t, text);
        return t;
    }

    /** An object whose text is so many blanks. */
    static TwoSides blanks(int n) {
        TwoSides t = new TwoSides();
        Due.write(t, " ".repeat(n));
        return t;
    }

    /** All that an object tells, by fewer than 400 calls; it is not to be asked any more then. */
    static String told(TwoSides t) {
        StringBuilder s = new StringBuilder();
        for (int what = 0; what < 5; what++) s.append(t.count(what)).append(' ');
        equations(t, s);
        answers(t, s);
        chains(t, s);
        words(t, s);
        patterns(t, s);
        s.append("\nfault ").append(t.fault());
        if (t.fault() != TwoSides.NONE) t.write('=', 1);
        s.append(" take ").append(t.take());
        equations(t, s);
        s.append("\nerase ").append(t.erase());
        return s.toString();
    }

    private static void equations(TwoSides t, StringBuilder s) {
        for (int e = 0; e < t.count(0); e++) s.append('\n').append(Due.side(t, e, 0)).append('=').append(Due.side(t, e, 1));
    }

    private static void answers(TwoSides t, StringBuilder s) {
        int many = t.answers();
        s.append("\nanswers ").append(many).append(" rank ").append(t.rank());
        if (many > 0) s.append(' ').append(Due.answer(t, 0)).append(' ').append(Due.answer(t, many - 1)).append(" sure");
        for (int u = 0; u < 4; u++) for (int p = 0; p < 8; p++) s.append(' ').append(t.sure(u, p));
    }

    private static void chains(TwoSides t, StringBuilder s) {
        for (int e = 0; e < 4; e++) {
            s.append('\n').append(t.met(e)).append(' ').append(t.fewest(e)).append(' ').append(t.ring(e));
            for (int i = 0; i < 3; i++) s.append(' ').append(t.putting(e, i));
            for (int u = 0; u < 4; u++) s.append(' ').append(t.found(e, u, -1)).append(' ').append(t.found(e, u, 0));
        }
    }

    private static void words(TwoSides t, StringBuilder s) {
        for (int i = 0; i < 4; i++) {
            s.append('\n');
            for (int what = 0; what < 7; what++) s.append(' ').append(t.of(i, what));
            for (int k = 0; k < 3; k++) s.append(' ').append(t.part(i, k));
            for (int j = 0; j < 4; j++) s.append(' ').append(t.agree(i, j)).append(' ').append(t.turned(i, j));
        }
    }

    private static void patterns(TwoSides t, StringBuilder s) {
        for (int i = 0; i < 4; i++) {
            s.append('\n');
            for (int j = 0; j < 4; j++) s.append(' ').append(t.makes(i, j)).append(' ').append(t.carries(i, j));
        }
        s.append(" common");
        for (int k = -1; k < 8; k++) s.append(' ').append(t.common(k));
    }
}
