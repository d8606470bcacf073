import java.util.ArrayDeque;
import java.util.ArrayList;
import java.util.Arrays;
import java.util.Comparator;
import java.util.HashMap;
import java.util.List;
import java.util.Map;
import java.util.TreeSet;
import java.util.regex.Matcher;
import java.util.regex.Pattern;

/** The document once more, by strings and by trying all: slow, and only told where little is to be tried. */
final class Slow {
    static final int NONE = -1, UNKNOWN = -2, OUTSIDE = -3, NOT = -4, FULL = -5, SPENT = -6, MANY = 1000000001;
    /** Told where there is too much to try. */
    static final long SKIP = Long.MIN_VALUE;
    static final String UNKNOWNS = "wxyz";
    private static final String SIDE = "[abcwxyz]{0,12}";
    private static final Pattern TEXT = Pattern.compile(SIDE + "=" + SIDE + "(;" + SIDE + "=" + SIDE + "){0,3}");

    private StringBuilder text = new StringBuilder();
    private final List<String[]> equations = new ArrayList<>();
    private final int[] lo = {0, 0, 0, 0}, hi = {4, 4, 4, 4}, letters = {7, 7, 7, 7};
    private final String[] told = {"", "", "", ""}, desk = {"", "", "", ""}, patterns = {"", "", "", ""};
    private final List<String> samples = new ArrayList<>();
    private List<String[]> answers = null;
    private boolean tried = false;
    private final Map<Integer, Chased> chased = new HashMap<>();

    private static boolean bad(int i) {
        return i < 0 || i > 3;
    }

    private static String letters(long word, int n) {
        StringBuilder s = new StringBuilder();
        for (int i = 0; i < n; i++) s.append((char) ('a' + (word >> 2 * i & 3)));
        return s.toString();
    }

    private static int code(char item) {
        return item < 'w' ? item - 'a' : item - 'w' + 4;
    }

    // ---- texts

    long write(long bytes, int n) {
        if (n < 1 || n > 8) return OUTSIDE;
        if (text.length() + n > 100) return FULL;
        for (int i = 0; i < n; i++) text.append((char) (bytes >> 8 * i & 255));
        return text.length();
    }

    long erase() {
        int n = text.length();
        text = new StringBuilder();
        return n;
    }

    long fault() {
        for (int i = 1; i <= text.length(); i++) {
            Matcher m = TEXT.matcher(text.substring(0, i).replace(" ", ""));
            if (!m.matches() && !m.hitEnd()) return i - 1;
        }
        return TEXT.matcher(text.toString().replace(" ", "")).matches() ? NONE : text.length();
    }

    long take() {
        if (fault() != NONE) return NOT;
        equations.clear();
        for (String e : text.toString().replace(" ", "").split(";", -1)) equations.add(e.split("=", -1));
        text = new StringBuilder();
        tried = false;
        chased.clear();
        return equations.size();
    }

    long item(int e, int side, int i) {
        if (e < 0 || e >= equations.size()) return UNKNOWN;
        if (side < 0 || side > 1 || i < 0) return OUTSIDE;
        String s = equations.get(e)[side];
        return i < s.length() ? code(s.charAt(i)) : NONE;
    }

    // ---- answers

    long bounds(int u, int from, int to, int may) {
        if (bad(u)) return UNKNOWN;
        if (from < 0 || from > 8 || to < 0 || to > 8 || from > to || may < 0 || may > 7) return OUTSIDE;
        lo[u] = from;
        hi[u] = to;
        letters[u] = may;
        tried = false;
        return 1;
    }

    private boolean used(char unknown) {
        for (String[] e : equations) if ((e[0] + e[1]).indexOf(unknown) >= 0) return true;
        return false;
    }

    private List<String> words(int u) {
        List<String> all = new ArrayList<>();
        if (!used(UNKNOWNS.charAt(u))) {
            if (lo[u] == 0) all.add("");
            return all;
        }
        List<String> longest = List.of("");
        for (int n = 0; n <= hi[u]; n++) {
            if (n >= lo[u]) all.addAll(longest);
            List<String> longer = new ArrayList<>();
            for (String s : longest) for (int l = 0; l < 3; l++) if ((letters[u] >> l & 1) == 1) longer.add(s + (char) ('a' + l));
            longest = longer;
        }
        return all;
    }

    static String put(String side, String[] words) {
        StringBuilder s = new StringBuilder();
        for (char c : side.toCharArray()) {
            if (c < 'w') s.append(c);
            else s.append(words[c - 'w']);
        }
        return s.toString();
    }

    private List<String[]> tryAll() {
        if (tried) return answers;
        tried = true;
        answers = null;
        List<List<String>> words = new ArrayList<>();
        long many = 1;
        for (int u = 0; u < 4; u++) {
            words.add(words(u));
            many *= words.get(u).size();
        }
        if (many > 150000) return null;
        answers = new ArrayList<>();
        for (String w : words.get(0)) for (String x : words.get(1)) for (String y : words.get(2)) for (String z : words.get(3)) {
            String[] row = {w, x, y, z};
            boolean solved = true;
            for (String[] e : equations) solved &= put(e[0], row).equals(put(e[1], row));
            if (solved) answers.add(row);
        }
        Comparator<String[]> order = Comparator.comparingInt(r -> String.join("", r).length());
        for (int u = 0; u < 4; u++) {
            int at = u;
            order = order.thenComparingInt(r -> r[at].length());
        }
        answers.sort(order.thenComparing(r -> String.join("", r)));
        return answers;
    }

    long answers() {
        List<String[]> all = tryAll();
        return all == null ? SKIP : all.size();
    }

    long answer(int i, int u, int k) {
        if (bad(u)) return UNKNOWN;
        if (i < 0 || i > 999999999 || k < -1) return OUTSIDE;
        List<String[]> all = tryAll();
        if (all == null) return SKIP;
        if (i >= all.size()) return NONE;
        String s = all.get(i)[u];
        return k == -1 ? s.length() : k < s.length() ? s.charAt(k) - 'a' : NONE;
    }

    long tell(int u, int word, int n) {
        if (bad(u)) return UNKNOWN;
        if (n < 0 || n > 8 || letters(word, n).contains("d")) return OUTSIDE;
        told[u] = letters(word, n);
        return 1;
    }

    long rank() {
        List<String[]> all = tryAll();
        if (all == null) return SKIP;
        for (int i = 0; i < all.size(); i++) if (Arrays.equals(all.get(i), told)) return i;
        return NONE;
    }

    long sure(int u, int place) {
        if (bad(u)) return UNKNOWN;
        if (place < 0 || place > 7) return OUTSIDE;
        List<String[]> all = tryAll();
        if (all == null) return SKIP;
        TreeSet<Integer> seen = new TreeSet<>();
        for (String[] row : all) seen.add(place < row[u].length() ? row[u].charAt(place) - 'a' : NONE);
        return seen.size() == 1 ? seen.first() : NONE;
    }

    // ---- chains

    /** One equation, chased. */
    static final class Chased {
        long refused = 0, ring = NONE;
        final List<String> met = new ArrayList<>();
        final List<Integer> chain = new ArrayList<>();
        boolean solved = false;
        final String[] words = {"", "", "", ""};

        private static String struck(String e) {
            int at = e.indexOf('=');
            String l = e.substring(0, at), r = e.substring(at + 1);
            while (!l.isEmpty() && !r.isEmpty() && l.charAt(0) == r.charAt(0)) {
                l = l.substring(1);
                r = r.substring(1);
            }
            return l + "=" + r;
        }

        /** What is put: an unknown, then its words ("X" nothing, "XlX", "XYX"). */
        static List<String> puttings(String e) {
            List<String> all = new ArrayList<>();
            int at = e.indexOf('=');
            String l = e.substring(0, Math.min(1, at)), r = e.substring(at + 1, Math.min(e.length(), at + 2));
            boolean lu = !l.isEmpty() && l.charAt(0) >= 'w', ru = !r.isEmpty() && r.charAt(0) >= 'w';
            if (lu && ru) all.addAll(List.of(l, r, l + r + l, r + l + r));
            else if (lu || ru) {
                String x = lu ? l : r, o = lu ? r : l;
                all.add(x);
                if (!o.isEmpty()) all.add(x + o + x);
            }
            return all;
        }

        private static boolean frees(String from, String to, char putNothing) {
            for (char u : UNKNOWNS.toCharArray()) {
                if (u != putNothing && from.indexOf(u) >= 0 && to.indexOf(u) < 0) return true;
            }
            return false;
        }

        Chased(String left, String right) {
            String raw = left + "=" + right;
            for (char u : UNKNOWNS.toCharArray()) {
                if (raw.chars().filter(c -> c == u).count() > 2) {
                    refused = NOT;
                    return;
                }
            }
            Map<String, Integer> index = new HashMap<>();
            List<int[]> next = new ArrayList<>();
            List<boolean[]> free = new ArrayList<>();
            met.add(struck(raw));
            index.put(met.get(0), 0);
            for (int i = 0; i < met.size(); i++) {
                String e = met.get(i);
                List<String> puttings = puttings(e);
                int[] to = new int[puttings.size()];
                boolean[] frees = new boolean[to.length];
                for (int k = 0; k < to.length; k++) {
                    String p = puttings.get(k);
                    String there = struck(e.replace(p.substring(0, 1), p.substring(1)));
                    frees[k] = frees(e, there, p.length() == 1 ? p.charAt(0) : '?');
                    if (!index.containsKey(there)) {
                        index.put(there, met.size());
                        met.add(there);
                    }
                    to[k] = index.get(there);
                }
                next.add(to);
                free.add(frees);
                if (met.size() > 1500) {
                    refused = SPENT;
                    return;
                }
            }
            if (!index.containsKey("=")) return;
            solved = true;
            int[] far = far(next, index.get("="));
            chain(next, far);
            ring = frees(raw, met.get(0), '?') ? 2 : ringed(next, free, far);
        }

        /** How many puttings from each to DONE. */
        private static int[] far(List<int[]> next, int done) {
            int[] far = new int[next.size()];
            Arrays.fill(far, 1 << 20);
            far[done] = 0;
            for (boolean more = true; more; ) {
                more = false;
                for (int i = 0; i < far.length; i++) for (int j : next.get(i)) {
                    if (far[j] + 1 < far[i]) {
                        far[i] = far[j] + 1;
                        more = true;
                    }
                }
            }
            return far;
        }

        private void chain(List<int[]> next, int[] far) {
            List<String> puts = new ArrayList<>();
            for (int at = 0; far[at] > 0; ) {
                int k = 0;
                while (far[next.get(at)[k]] != far[at] - 1) k++;
                chain.add(k);
                puts.add(puttings(met.get(at)).get(k));
                at = next.get(at)[k];
            }
            for (int i = puts.size() - 1; i >= 0; i--) {
                String p = puts.get(i);
                int u = p.charAt(0) - 'w';
                if (p.length() == 1) words[u] = "";
                else if (p.charAt(1) < 'w') words[u] = p.charAt(1) + words[u];
                else words[u] = words[p.charAt(1) - 'w'] + words[u];
            }
        }

        private static long ringed(List<int[]> next, List<boolean[]> free, int[] far) {
            long best = 0;
            for (int i = 0; i < far.length; i++) {
                if (far[i] >= 1 << 20) continue;
                for (int k = 0; k < next.get(i).length; k++) {
                    if (free.get(i)[k] && far[next.get(i)[k]] < 1 << 20) return 2;
                }
                if (best == 0 && comesAgain(next, i)) best = 1;
            }
            return best;
        }

        private static boolean comesAgain(List<int[]> next, int start) {
            boolean[] seen = new boolean[next.size()];
            ArrayDeque<Integer> queue = new ArrayDeque<>(List.of(start));
            while (!queue.isEmpty()) {
                for (int j : next.get(queue.poll())) {
                    if (j == start) return true;
                    if (!seen[j]) queue.add(j);
                    seen[j] = true;
                }
            }
            return false;
        }
    }

    private Chased chase(int e) {
        if (!chased.containsKey(e)) chased.put(e, new Chased(equations.get(e)[0], equations.get(e)[1]));
        return chased.get(e);
    }

    long met(int e) {
        if (e < 0 || e >= equations.size()) return UNKNOWN;
        Chased c = chase(e);
        return c.refused != 0 ? c.refused : c.met.size();
    }

    long fewest(int e) {
        if (e < 0 || e >= equations.size()) return UNKNOWN;
        Chased c = chase(e);
        return c.refused != 0 ? c.refused : c.solved ? c.chain.size() : NONE;
    }

    long ring(int e) {
        if (e < 0 || e >= equations.size()) return UNKNOWN;
        Chased c = chase(e);
        return c.refused != 0 ? c.refused : c.ring;
    }

    long putting(int e, int i) {
        if (e < 0 || e >= equations.size()) return UNKNOWN;
        if (i < 0) return OUTSIDE;
        Chased c = chase(e);
        return c.refused != 0 ? c.refused : i < c.chain.size() ? c.chain.get(i) : NONE;
    }

    long found(int e, int u, int k) {
        if (e < 0 || e >= equations.size() || bad(u)) return UNKNOWN;
        if (k < -1) return OUTSIDE;
        Chased c = chase(e);
        if (c.refused != 0) return c.refused;
        if (!c.solved) return NONE;
        for (String word : c.words) if (word.length() > 300) return SPENT;
        String s = c.words[u];
        return k == -1 ? s.length() : k < s.length() ? s.charAt(k) - 'a' : NONE;
    }

    // ---- words

    long word(int i, long word, int n) {
        if (bad(i)) return UNKNOWN;
        if (n < 0 || n > 30 || letters(word, n).contains("d")) return OUTSIDE;
        desk[i] = letters(word, n);
        return 1;
    }

    private static boolean period(String s, int p) {
        return s.startsWith(s.substring(p));
    }

    private static String turn(String s, int k) {
        return s.substring(k) + s.substring(0, k);
    }

    private static boolean falls(String s) {
        for (int k = 1; k < s.length(); k++) if (s.compareTo(turn(s, k)) >= 0) return false;
        return true;
    }

    /** Falling parts, from the end: the first of them that can be so long that those ahead can still be split. */
    static List<String> parts(String s) {
        if (s.isEmpty()) return new ArrayList<>();
        for (int n = 1; n <= s.length(); n++) {
            String first = s.substring(0, n);
            if (!falls(first)) continue;
            List<String> rest = parts(s.substring(n));
            if (rest.isEmpty() || first.compareTo(rest.get(0)) >= 0) {
                rest.add(0, first);
                return rest;
            }
        }
        throw new IllegalStateException(s);
    }

    long of(int i, int what) {
        if (bad(i)) return UNKNOWN;
        String s = desk[i];
        int least = 0, root = 0, periods = 0, border = 0, turn = 0;
        for (int p = s.length(); p >= 1; p--) {
            if (period(s, p)) {
                least = p;
                periods++;
            }
            if (s.length() % p == 0 && s.substring(0, p).repeat(s.length() / p).equals(s)) root = p;
        }
        for (int b = 0; b < s.length(); b++) {
            if (s.endsWith(s.substring(0, b))) border = b;
            if (turn(s, b).compareTo(turn(s, turn)) < 0) turn = b;
        }
        return switch (what) {
            case 0 -> s.length();
            case 1 -> root;
            case 2 -> border;
            case 3 -> turn;
            case 4 -> parts(s).size();
            case 5 -> least;
            case 6 -> periods;
            default -> OUTSIDE;
        };
    }

    long part(int i, int k) {
        if (bad(i)) return UNKNOWN;
        if (k < 0) return OUTSIDE;
        List<String> parts = parts(desk[i]);
        return k < parts.size() ? parts.get(k).length() : NONE;
    }

    long agree(int i, int j) {
        if (bad(i) || bad(j)) return UNKNOWN;
        return (desk[i] + desk[j]).equals(desk[j] + desk[i]) ? 1 : 0;
    }

    long turned(int i, int j) {
        if (bad(i) || bad(j)) return UNKNOWN;
        for (int k = 0; k <= desk[i].length(); k++) if (turn(desk[i], k).equals(desk[j])) return k;
        return NONE;
    }

    long classes(int p, int q, int n, int place) {
        if (p < 1 || p > 60 || q < 1 || q > 60 || n < 1 || n > 60 || place < -1 || place >= n) return OUTSIDE;
        int[] number = new int[n];
        Arrays.fill(number, -1);
        int many = 0;
        for (int i = 0; i < n; i++) {
            if (number[i] < 0) color(number, i, many++, p, q);
        }
        return place == -1 ? many : number[place];
    }

    private static void color(int[] number, int i, int c, int p, int q) {
        if (i < 0 || i >= number.length || number[i] >= 0) return;
        number[i] = c;
        for (int d : new int[] {p, -p, q, -q}) color(number, i + d, c, p, q);
    }

    // ---- patterns

    long pattern(int i) {
        if (bad(i)) return UNKNOWN;
        String s = text.toString().replace(" ", "");
        if (!s.matches("[abcwxyz]{1,12}")) return NOT;
        patterns[i] = s;
        text = new StringBuilder();
        return s.length();
    }

    /** In how many ways a pattern becomes a row, its unknowns being put rows of one or more. */
    static long ways(String pattern, String row, String[] put) {
        if (pattern.isEmpty()) return row.isEmpty() ? 1 : 0;
        if (row.length() < pattern.length()) return 0;
        char c = pattern.charAt(0);
        if (c < 'w') return row.charAt(0) == c ? ways(pattern.substring(1), row.substring(1), put) : 0;
        String had = put[c - 'w'];
        long many = 0;
        for (int n = 1; n <= row.length(); n++) {
            String word = row.substring(0, n);
            if (had != null && !had.equals(word)) continue;
            put[c - 'w'] = word;
            many += ways(pattern.substring(1), row.substring(n), put);
            put[c - 'w'] = had;
        }
        return many;
    }

    long makes(int i, int word) {
        if (bad(i) || bad(word)) return UNKNOWN;
        if (patterns[i].isEmpty()) return NOT;
        return ways(patterns[i], desk[word], new String[4]);
    }

    long carries(int i, int j) {
        if (bad(i) || bad(j)) return UNKNOWN;
        if (patterns[i].isEmpty() || patterns[j].isEmpty()) return NOT;
        return ways(patterns[i], patterns[j], new String[4]) > 0 ? 1 : 0;
    }

    long sample(int word, int n) {
        if (n < 1 || n > 8 || letters(word, n).contains("d")) return OUTSIDE;
        if (samples.size() == 6) return FULL;
        samples.add(letters(word, n));
        return samples.size();
    }

    long clear() {
        int n = samples.size();
        samples.clear();
        return n;
    }

    private String common() {
        int least = 8;
        for (String s : samples) least = Math.min(least, s.length());
        for (int n = least; n > 0; n--) {
            for (int row = 0; row < 1 << 2 * n; row++) {
                StringBuilder b = new StringBuilder();
                for (int i = n - 1; i >= 0; i--) b.append("abcx".charAt(row >> 2 * i & 3));
                String pattern = b.toString();
                if (pattern.indexOf('x') < 0) continue;
                boolean all = true;
                for (int s = 0; s < samples.size() && all; s++) all = ways(pattern, samples.get(s), new String[4]) > 0;
                if (all) return pattern;
            }
        }
        throw new IllegalStateException();
    }

    long common(int k) {
        if (k < -1) return OUTSIDE;
        if (samples.isEmpty()) return NOT;
        String s = common();
        return k == -1 ? s.length() : k < s.length() ? code(s.charAt(k)) : NONE;
    }

    long count(int what) {
        if (what == 0) return equations.size();
        if (what == 1) return text.length();
        if (what == 2) return UNKNOWNS.chars().filter(c -> used((char) c)).count();
        if (what == 3) return samples.size();
        if (what == 4) return Arrays.stream(patterns).filter(p -> !p.isEmpty()).count();
        return OUTSIDE;
    }
}
