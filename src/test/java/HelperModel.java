import java.util.ArrayList;
import java.util.BitSet;
import java.util.HashMap;
import java.util.List;
import java.util.Map;
import java.util.NoSuchElementException;

/**
 * The document once more, as plainly as it can be said and without any thought of speed: words are
 * texts, runs are walked, contexts are tried one by one. The tests compare the class with it.
 */
final class HelperModel {
    static final class Mach {
        int states;
        int[][][] marks = new int[4][2][4];
        char how = 'b';
        int table;

        Mach(int states) {
            this.states = states;
            for (int[][] a : marks) {
                for (int[] b : a) {
                    java.util.Arrays.fill(b, -1);
                }
            }
        }

        int edges() {
            int n = 0;
            for (int[][] a : marks) {
                for (int[] b : a) {
                    for (int m : b) {
                        n += m >= 0 ? 1 : 0;
                    }
                }
            }
            return n;
        }

        boolean accepts(int set) {
            boolean i0 = (set & 1) > 0, i1 = (set & 2) > 0, i2 = (set & 4) > 0, i3 = (set & 8) > 0;
            if (how == 'b') return i0;
            if (how == 'c') return !i0;
            if (how == 'p') {
                int greatest = -1;
                for (int i = 0; i < 4; i++) {
                    if ((set & (1 << i)) > 0) greatest = i;
                }
                return greatest >= 0 && greatest % 2 == 0;
            }
            if (how == 'r') return i1 && !i0 || i3 && !i2;
            if (how == 's') return (i1 || !i0) && (i3 || !i2);
            return (table & (1 << set)) != 0;
        }

        /** Walks all runs on the lasso. */
        boolean takes(String way, String loop) {
            boolean[] at = new boolean[4];
            at[0] = true;
            for (int i = 0; i < way.length(); i++) {
                at = after(at, way.charAt(i));
            }
            for (int i = 0; i < 5; i++) {
                for (int q = 0; q < states; q++) {
                    if (at[q] && roundFrom(q, loop)) return true;
                }
                for (int k = 0; k < loop.length(); k++) {
                    at = after(at, loop.charAt(k));
                }
            }
            return false;
        }

        boolean[] after(boolean[] at, char letter) {
            boolean[] to = new boolean[4];
            for (int p = 0; p < states; p++) {
                for (int q = 0; q < states; q++) {
                    if (at[p] && marks[p][letter - 'a'][q] >= 0) to[q] = true;
                }
            }
            return to;
        }

        /** Whether some way round from the state, at the start of the loop, back to it, has an accepted set. */
        boolean roundFrom(int home, String loop) {
            boolean[][][] seen = new boolean[loop.length()][4][16];
            List<int[]> open = new ArrayList<>();
            open.add(new int[] {0, home, 0});
            seen[0][home][0] = true;
            for (int i = 0; i < open.size(); i++) {
                int[] o = open.get(i);
                for (int q = 0; q < states; q++) {
                    int m = marks[o[1]][loop.charAt(o[0]) - 'a'][q];
                    if (m < 0) continue;
                    int pos = (o[0] + 1) % loop.length();
                    int set = o[2] | m;
                    if (pos == 0 && q == home && accepts(set)) return true;
                    if (!seen[pos][q][set]) {
                        seen[pos][q][set] = true;
                        open.add(new int[] {pos, q, set});
                    }
                }
            }
            return false;
        }

        BitSet letterDeed(char letter) {
            BitSet deed = new BitSet();
            for (int p = 0; p < states; p++) {
                for (int q = 0; q < states; q++) {
                    int m = marks[p][letter - 'a'][q];
                    if (m >= 0) deed.set((p * 4 + q) * 16 + m);
                }
            }
            return deed;
        }

        static BitSet compose(BitSet one, BitSet two) {
            BitSet made = new BitSet();
            for (int i = one.nextSetBit(0); i >= 0; i = one.nextSetBit(i + 1)) {
                for (int j = two.nextSetBit(0); j >= 0; j = two.nextSetBit(j + 1)) {
                    int p = i / 64, q = i / 16 % 4, r = j / 64, s = j / 16 % 4;
                    if (q == r) made.set((p * 4 + s) * 16 + (i % 16 | j % 16));
                }
            }
            return made;
        }

        /** The first words of all deeds, null if there are more than 300. */
        List<String> deedWords(Map<BitSet, Integer> number, List<BitSet> deeds) {
            List<String> words = new ArrayList<>();
            for (int i = -1; i < words.size(); i++) {
                for (char c = 'a'; c <= 'b'; c++) {
                    BitSet deed = i < 0 ? letterDeed(c) : compose(deeds.get(i), letterDeed(c));
                    if (!number.containsKey(deed)) {
                        number.put(deed, words.size());
                        deeds.add(deed);
                        words.add((i < 0 ? "" : words.get(i)) + c);
                        if (words.size() > 300) return null;
                    }
                }
            }
            return words;
        }
    }

    /** A language by its classes: words, products, and val[x + 1][t]. */
    static final class Lang {
        int n;
        String[] word;
        int[][] mul;
        boolean[][] val;

        int follow(String text) {
            int x = -1;
            for (int i = 0; i < text.length(); i++) {
                x = x < 0 ? gen(text.charAt(i)) : mul[x][gen(text.charAt(i))];
            }
            return x;
        }

        int gen(char c) {
            return letterClass[c - 'a'];
        }

        int[] letterClass = new int[2];

        int times(int x, int y) {
            return x < 0 ? y : y < 0 ? x : mul[x][y];
        }

        boolean has(String way, String loop) {
            return val[follow(way) + 1][follow(loop)];
        }

        int power(int x) {
            int p = x;
            while (mul[p][p] != p) p = mul[p][x];
            return p;
        }

        boolean meets(int x, boolean in) {
            for (int y = -1; y < n; y++) {
                for (int t = 0; t < n; t++) {
                    if (val[times(x, y) + 1][t] == in) return true;
                }
            }
            return false;
        }
    }

    interface Verdict {
        boolean of(int x, int t);
    }

    static Lang build(List<String> words, int[][] step, int[] start, Verdict verdict) {
        Lang l = new Lang();
        l.n = words.size();
        l.word = words.toArray(new String[0]);
        l.letterClass = start.clone();
        l.mul = new int[l.n][l.n];
        for (int x = 0; x < l.n; x++) {
            for (int y = 0; y < l.n; y++) {
                int z = x;
                for (char c : l.word[y].toCharArray()) z = step[z][c - 'a'];
                l.mul[x][y] = z;
            }
        }
        l.val = new boolean[l.n + 1][l.n];
        for (int x = -1; x < l.n; x++) {
            for (int t = 0; t < l.n; t++) l.val[x + 1][t] = verdict.of(x, t);
        }
        return l;
    }

    /** Puts together what no context tells apart; null if more than 100 classes are left. */
    static Lang reduce(Lang raw) {
        String[] sig = new String[raw.n];
        if (raw.n <= 34) {
            for (int x = 0; x < raw.n; x++) {
                StringBuilder s = new StringBuilder();
                for (int p = -1; p < raw.n; p++) {
                    for (int q = -1; q < raw.n; q++) {
                        int y = raw.times(raw.times(p, x), q);
                        for (int u = 0; u < raw.n; u++) s.append(raw.val[y + 1][u] ? '1' : '0');
                        s.append(raw.val[p + 1][raw.times(x, q)] ? '1' : '0');
                    }
                }
                sig[x] = s.toString();
            }
        } else {
            for (int x = 0; x < raw.n; x++) {
                StringBuilder s = new StringBuilder();
                for (int u = 0; u < raw.n; u++) s.append(raw.val[x + 1][u] ? '1' : '0');
                for (int p = -1; p < raw.n; p++) s.append(raw.val[p + 1][x] ? '1' : '0');
                sig[x] = s.toString();
            }
            for (int round = 0; round <= raw.n; round++) {
                Map<String, Integer> names = new HashMap<>();
                int[] name = new int[raw.n];
                for (int x = 0; x < raw.n; x++) {
                    names.putIfAbsent(sig[x], names.size());
                    name[x] = names.get(sig[x]);
                }
                for (int x = 0; x < raw.n; x++) {
                    sig[x] = name[x] + "," + name[raw.mul[x][raw.gen('a')]] + "," + name[raw.mul[x][raw.gen('b')]]
                            + "," + name[raw.mul[raw.gen('a')][x]] + "," + name[raw.mul[raw.gen('b')][x]];
                }
            }
        }
        Map<String, Integer> names = new HashMap<>();
        List<Integer> first = new ArrayList<>();
        int[] to = new int[raw.n];
        for (int x = 0; x < raw.n; x++) {
            if (!names.containsKey(sig[x])) {
                names.put(sig[x], names.size());
                first.add(x);
            }
            to[x] = names.get(sig[x]);
        }
        if (names.size() > 100) return null;
        Lang l = new Lang();
        l.n = names.size();
        l.word = new String[l.n];
        l.mul = new int[l.n][l.n];
        l.val = new boolean[l.n + 1][l.n];
        l.letterClass = new int[] {to[raw.gen('a')], to[raw.gen('b')]};
        for (int x = -1; x < l.n; x++) {
            if (x >= 0) l.word[x] = raw.word[first.get(x)];
            for (int y = 0; y < l.n; y++) {
                if (x >= 0) l.mul[x][y] = to[raw.mul[first.get(x)][first.get(y)]];
                l.val[x + 1][y] = raw.val[x < 0 ? 0 : first.get(x) + 1][first.get(y)];
            }
        }
        return l;
    }

    /** All pairs of classes of words in two languages, null if there are more than 600. */
    static Lang pair(Lang one, Lang two, char by) {
        Map<Long, Integer> number = new HashMap<>();
        List<int[]> pairs = new ArrayList<>();
        List<String> words = new ArrayList<>();
        List<int[]> steps = new ArrayList<>();
        int[] start = new int[2];
        for (int i = -1; i < words.size(); i++) {
            int[] step = new int[2];
            for (char c = 'a'; c <= 'b'; c++) {
                int x = one.times(i < 0 ? -1 : pairs.get(i)[0], one.gen(c));
                int y = two.times(i < 0 ? -1 : pairs.get(i)[1], two.gen(c));
                long key = x * 1000L + y;
                if (!number.containsKey(key)) {
                    number.put(key, words.size());
                    pairs.add(new int[] {x, y});
                    words.add((i < 0 ? "" : words.get(i)) + c);
                    if (words.size() > 600) return null;
                }
                step[c - 'a'] = number.get(key);
            }
            if (i < 0) start = step; else steps.add(step);
        }
        return build(words, steps.toArray(new int[0][]), start, (x, t) -> {
            boolean a = one.val[x < 0 ? 0 : pairs.get(x)[0] + 1][pairs.get(t)[0]];
            boolean b = two.val[x < 0 ? 0 : pairs.get(x)[1] + 1][pairs.get(t)[1]];
            return by == '&' ? a && b : by == '|' ? a || b : by == 'x' ? a ^ b : a && !b;
        });
    }

    static Lang same(Lang l, Verdict verdict) {
        Lang m = new Lang();
        m.n = l.n;
        m.word = l.word;
        m.mul = l.mul;
        m.letterClass = l.letterClass;
        m.val = new boolean[l.n + 1][l.n];
        for (int x = -1; x < l.n; x++) {
            for (int t = 0; t < l.n; t++) m.val[x + 1][t] = verdict.of(x, t);
        }
        return m;
    }

    static boolean eachBeginningMeets(Lang l, int x, int t, boolean in) {
        int at = x;
        if (!l.meets(at, in)) return false;
        for (int k = 0; k <= l.n + 1; k++) {
            for (char c : l.word[t].toCharArray()) {
                at = l.times(at, l.gen(c));
                if (!l.meets(at, in)) return false;
            }
        }
        return true;
    }

    static Lang turned(Lang l, char how) {
        switch (how) {
            case 'n': return same(l, (x, t) -> !l.val[x + 1][t]);
            case 'c': return same(l, (x, t) -> eachBeginningMeets(l, x, t, true));
            case 'l': return same(l, (x, t) -> l.val[x + 1][t] || !eachBeginningMeets(l, x, t, true));
            default: return same(l, (x, t) -> !eachBeginningMeets(l, x, t, false));
        }
    }

    static Lang shifted(Lang l, char letter) {
        return same(l, (x, t) -> l.val[l.times(l.gen(letter), x) + 1][t]);
    }

    static boolean isSame(Lang one, Lang two) {
        if (one.n != two.n) return false;
        for (int x = 0; x < one.n; x++) {
            if (!one.word[x].equals(two.word[x])) return false;
        }
        return java.util.Arrays.deepEquals(one.mul, two.mul) && java.util.Arrays.deepEquals(one.val, two.val);
    }

    static boolean any(Lang l, boolean in) {
        for (boolean[] row : l.val) {
            for (boolean v : row) {
                if (v == in) return true;
            }
        }
        return false;
    }

    static int chain(Lang l, boolean in) {
        int best = 0;
        for (int s = 0; s < l.n; s++) {
            Integer[] known = new Integer[l.n];
            for (int e = 0; e < l.n; e++) {
                if (l.mul[e][e] == e && l.mul[s][e] == s && l.val[s + 1][e] == in) {
                    best = Math.max(best, chainFrom(l, s, e, known));
                }
            }
        }
        return best;
    }

    static int chainFrom(Lang l, int s, int e, Integer[] known) {
        if (known[e] == null) {
            int best = 1;
            for (int c = 0; c < l.n; c++) {
                if (l.mul[s][c] != s) continue;
                int f = l.power(l.mul[e][c]);
                if (l.val[s + 1][f] != l.val[s + 1][e]) best = Math.max(best, 1 + chainFrom(l, s, f, known));
            }
            known[e] = best;
        }
        return known[e];
    }

    static List<String> rows(int letters) {
        List<String> all = new ArrayList<>();
        for (int i = 0; i < 1 << letters; i++) {
            StringBuilder s = new StringBuilder();
            for (int k = letters - 1; k >= 0; k--) s.append((i >> k & 1) == 0 ? 'a' : 'b');
            all.add(s.toString());
        }
        return all;
    }

    static List<List<String[]>> lassos = new ArrayList<>();

    /** All lassos with just so many letters. */
    static List<String[]> lassos(int total) {
        while (lassos.size() <= total) {
            int all = lassos.size();
            List<String[]> made = new ArrayList<>();
            for (int w = 0; w < all; w++) {
                for (String way : rows(w)) {
                    for (String loop : rows(all - w)) made.add(new String[] {way, loop});
                }
            }
            lassos.add(made);
        }
        return lassos.get(total);
    }

    static int many(Lang l, int letters) {
        int n = 0;
        for (int k = 1; k <= letters; k++) {
            for (String[] lasso : lassos(k)) n += l.has(lasso[0], lasso[1]) ? 1 : 0;
        }
        return n;
    }

    // Formulas: read from the left, said of the word from a place on.

    private int read;

    private boolean parse(String text, int depth) {
        if (read >= text.length()) return false;
        char c = text.charAt(read++);
        if (c == 'a') return true;
        if ("!XFG".indexOf(c) >= 0) return parse(text, depth + 1);
        return parse(text, depth + 1) && parse(text, depth + 1);
    }

    boolean isFormula(String text) {
        read = 0;
        return parse(text, 0) && read == text.length();
    }

    static int skip(String text, int at) {
        char c = text.charAt(at);
        if (c == 'a') return at + 1;
        if ("!XFG".indexOf(c) >= 0) return skip(text, at + 1);
        return skip(text, skip(text, at + 1));
    }

    static boolean said(String text, int at, String way, String loop, int place, Map<Long, Boolean> known) {
        int n = way.length() + loop.length();
        int p = place < n ? place : way.length() + (place - way.length()) % loop.length();
        long key = at * 100L + p;
        Boolean before = known.get(key);
        if (before != null) return before;
        boolean is;
        switch (text.charAt(at)) {
            case 'a': is = (p < way.length() ? way.charAt(p) : loop.charAt(p - way.length())) == 'a'; break;
            case '!': is = !said(text, at + 1, way, loop, p, known); break;
            case 'X': is = said(text, at + 1, way, loop, p + 1, known); break;
            case '&': is = said(text, at + 1, way, loop, p, known) & said(text, skip(text, at + 1), way, loop, p, known); break;
            case '|': is = said(text, at + 1, way, loop, p, known) | said(text, skip(text, at + 1), way, loop, p, known); break;
            case 'F': {
                is = false;
                for (int k = 0; k <= n + 1; k++) is |= said(text, at + 1, way, loop, p + k, known);
                break;
            }
            case 'G': {
                is = true;
                for (int k = 0; k <= n + 1; k++) is &= said(text, at + 1, way, loop, p + k, known);
                break;
            }
            default: {
                is = false;
                int two = skip(text, at + 1);
                for (int k = 0; k <= n + 1 && !is; k++) {
                    if (said(text, two, way, loop, p + k, known)) {
                        boolean all = true;
                        for (int j = 0; j < k; j++) all &= said(text, at + 1, way, loop, p + j, known);
                        is = all;
                    }
                }
            }
        }
        known.put(key, is);
        return is;
    }

    // Games: every choice that looks at the position alone is tried for the player 0.

    List<int[]> positions = new ArrayList<>();
    boolean[][] ways = new boolean[10][10];

    boolean[] winning() {
        int n = positions.size();
        boolean[] won = new boolean[n];
        tryChoices(0, new int[n], won);
        return won;
    }

    private void tryChoices(int i, int[] choice, boolean[] won) {
        int n = positions.size();
        if (i == n) {
            for (int p = 0; p < n; p++) {
                if (!won[p] && !isLost(p, choice)) won[p] = true;
            }
            return;
        }
        if (positions.get(i)[0] == 1) {
            tryChoices(i + 1, choice, won);
            return;
        }
        choice[i] = -1;
        boolean any = false;
        for (int to = 0; to < n; to++) {
            if (ways[i][to]) {
                any = true;
                choice[i] = to;
                tryChoices(i + 1, choice, won);
            }
        }
        if (!any) {
            choice[i] = -1;
            tryChoices(i + 1, choice, won);
        }
    }

    /** With the choices of the player 0 fixed: whether the player 1 can come to an end or round that he wins. */
    private boolean isLost(int from, int[] choice) {
        int n = positions.size();
        boolean[][] go = new boolean[n][n];
        for (int i = 0; i < n; i++) {
            for (int k = 0; k < n; k++) go[i][k] = positions.get(i)[0] == 0 ? choice[i] == k : ways[i][k];
        }
        boolean[] reach = reach(go, from, 5);
        reach[from] = true;
        for (int p = 0; p < n; p++) {
            if (!reach[p]) continue;
            if (positions.get(p)[0] == 0 && choice[p] < 0) return true;
            int colour = positions.get(p)[1];
            if (colour % 2 == 1 && reach(go, p, colour)[p]) return true;
        }
        return false;
    }

    /** What is reached by at least one step through positions of a colour up to the one told. */
    private boolean[] reach(boolean[][] go, int from, int most) {
        int n = positions.size();
        boolean[] seen = new boolean[n];
        List<Integer> open = new ArrayList<>();
        open.add(from);
        for (int i = 0; i < open.size(); i++) {
            for (int to = 0; to < n; to++) {
                if (go[open.get(i)][to] && !seen[to] && positions.get(to)[1] <= most) {
                    seen[to] = true;
                    open.add(to);
                }
            }
        }
        return seen;
    }

    // The face

    String way = "";
    String loop = "";
    String text = "";
    List<Mach> machines = new ArrayList<>();
    List<Lang> langs = new ArrayList<>();

    static RuntimeException iae() { return new IllegalArgumentException(); }
    static RuntimeException ise() { return new IllegalStateException(); }
    static RuntimeException ioobe() { return new IndexOutOfBoundsException(); }
    static RuntimeException uoe() { return new UnsupportedOperationException(); }
    static RuntimeException nse() { return new NoSuchElementException(); }

    Mach mach(int i) {
        if (i < 0 || i >= machines.size()) throw ioobe();
        return machines.get(i);
    }

    Lang lang(int i) {
        if (i < 0 || i >= langs.size()) throw ioobe();
        return langs.get(i);
    }

    static void letter(char c) {
        if (c != 'a' && c != 'b') throw iae();
    }

    int type(char c, boolean isLoop) {
        letter(c);
        if ((isLoop ? loop : way).length() == 10) throw ise();
        if (isLoop) loop += c; else way += c;
        return (isLoop ? loop : way).length();
    }

    int wipe() {
        int n = way.length() + loop.length();
        way = "";
        loop = "";
        return n;
    }

    char letterAt(int i, boolean isLoop) {
        String s = isLoop ? loop : way;
        if (i < 0 || i >= s.length()) throw nse();
        return s.charAt(i);
    }

    int machine(int states) {
        if (states < 1 || states > 4) throw iae();
        if (machines.size() == 6) throw ise();
        machines.add(new Mach(states));
        return machines.size() - 1;
    }

    int edge(int m, int p, char c, int q, int marks) {
        Mach a = mach(m);
        if (p < 0 || p >= a.states || q < 0 || q >= a.states) throw ioobe();
        letter(c);
        if (marks < 0 || marks > 15) throw iae();
        a.marks[p][c - 'a'][q] = marks;
        return a.edges();
    }

    int cut(int m, int p, char c, int q) {
        Mach a = mach(m);
        if (p < 0 || p >= a.states || q < 0 || q >= a.states) throw ioobe();
        letter(c);
        int was = a.marks[p][c - 'a'][q];
        if (was < 0) throw nse();
        a.marks[p][c - 'a'][q] = -1;
        return was;
    }

    char accept(int m, char how, int table) {
        Mach a = mach(m);
        if ("bcprsm".indexOf(how) < 0) throw iae();
        if (how == 'm' && (table < 0 || table > 65535)) throw iae();
        char was = a.how;
        a.how = how;
        a.table = table;
        return was;
    }

    boolean isDeterministic(int m, boolean whole) {
        Mach a = mach(m);
        for (int p = 0; p < a.states; p++) {
            for (int c = 0; c < 2; c++) {
                int n = 0;
                for (int q = 0; q < 4; q++) n += a.marks[p][c][q] >= 0 ? 1 : 0;
                if (n > 1 || whole && n != 1) return false;
            }
        }
        return true;
    }

    boolean takes(int m) {
        Mach a = mach(m);
        if (loop.isEmpty()) throw uoe();
        return a.takes(way, loop);
    }

    int deeds(int m) {
        List<String> words = mach(m).deedWords(new HashMap<>(), new ArrayList<>());
        if (words == null) throw uoe();
        return words.size();
    }

    int language(int m) {
        Mach a = mach(m);
        Map<BitSet, Integer> number = new HashMap<>();
        List<BitSet> deeds = new ArrayList<>();
        List<String> words = a.deedWords(number, deeds);
        if (words == null) throw uoe();
        int[][] step = new int[words.size()][2];
        for (int i = 0; i < words.size(); i++) {
            for (int c = 0; c < 2; c++) step[i][c] = number.get(Mach.compose(deeds.get(i), a.letterDeed((char) ('a' + c))));
        }
        int[] start = {number.get(a.letterDeed('a')), number.get(a.letterDeed('b'))};
        Lang l = reduce(build(words, step, start, (x, t) -> a.takes(x < 0 ? "" : words.get(x), words.get(t))));
        if (l == null) throw uoe();
        return add(l);
    }

    int add(Lang l) {
        if (langs.size() == 12) throw ise();
        langs.add(l);
        return langs.size() - 1;
    }

    int turn(int i, char how) {
        Lang l = lang(i);
        if ("ncli".indexOf(how) < 0) throw iae();
        if (langs.size() == 12) throw ise();
        return add(reduce(turned(l, how)));
    }

    int join(int i, int k, char by) {
        Lang l = lang(i);
        Lang m = lang(k);
        if ("&|x".indexOf(by) < 0) throw iae();
        Lang pair = pair(l, m, by);
        Lang made = pair == null ? null : reduce(pair);
        if (made == null) throw uoe();
        return add(made);
    }

    int shift(int i, char c) {
        Lang l = lang(i);
        letter(c);
        if (langs.size() == 12) throw ise();
        return add(reduce(shifted(l, c)));
    }

    int drop() {
        if (langs.isEmpty()) throw ise();
        langs.remove(langs.size() - 1);
        return langs.size();
    }

    boolean has(int i) {
        Lang l = lang(i);
        if (loop.isEmpty()) throw uoe();
        return l.has(way, loop);
    }

    int cls(int i, int x) {
        if (x < 0 || x >= lang(i).n) throw ioobe();
        return x;
    }

    int length(int i, int x) {
        cls(i, x);
        return lang(i).word[x].length();
    }

    int product(int i, int x, int y) {
        cls(i, x);
        cls(i, y);
        return lang(i).mul[x][y];
    }

    int classOf(int i) {
        lang(i);
        if (way.isEmpty()) throw uoe();
        return lang(i).follow(way);
    }

    int idempotents(int i) {
        int n = 0;
        for (int x = 0; x < lang(i).n; x++) n += lang(i).mul[x][x] == x ? 1 : 0;
        return n;
    }

    boolean value(int i, int x, int t) {
        lang(i);
        if (x != -1) cls(i, x);
        cls(i, t);
        return lang(i).val[x + 1][t];
    }

    boolean isSame(int i, int k) {
        return isSame(lang(i), lang(k));
    }

    boolean isWithin(int i, int k) {
        Lang p = pair(lang(i), lang(k), '-');
        if (p == null) throw uoe();
        return !any(p, true);
    }

    int apart(int i, int k) {
        lang(i);
        lang(k);
        for (int n = 1; n <= 8; n++) {
            for (String[] lasso : lassos(n)) {
                if (lang(i).has(lasso[0], lasso[1]) != lang(k).has(lasso[0], lasso[1])) {
                    way = lasso[0];
                    loop = lasso[1];
                    return n;
                }
            }
        }
        throw nse();
    }

    boolean isA(int i, char kind) {
        Lang l = lang(i);
        switch (kind) {
            case 'e': return !any(l, true);
            case 'u': return !any(l, false);
            case 'o': return isSame(reduce(turned(turned(turned(l, 'n'), 'c'), 'n')), l);
            case 'c': return isSame(reduce(turned(l, 'c')), l);
            case 'd': return !any(turned(l, 'c'), false);
            case 'g': return chain(l, true) < 2;
            case 'f': return chain(l, false) < 2;
            case 'a': {
                for (int x = 0; x < l.n; x++) {
                    if (l.mul[x][l.power(x)] != l.power(x)) return false;
                }
                return true;
            }
            case 'k': {
                for (int x = 0; x < l.n; x++) {
                    for (int y = 0; y < l.n; y++) {
                        if (l.mul[x][y] != l.mul[y][x]) return false;
                    }
                }
                return true;
            }
            case 'p': return isSame(reduce(shifted(l, 'a')), l) && isSame(reduce(shifted(l, 'b')), l);
            default: throw iae();
        }
    }

    int residuals(int i) {
        Lang l = lang(i);
        java.util.Set<String> kinds = new java.util.HashSet<>();
        for (int x = -1; x < l.n; x++) {
            StringBuilder s = new StringBuilder();
            for (int y = -1; y < l.n; y++) {
                for (int t = 0; t < l.n; t++) s.append(l.val[l.times(x, y) + 1][t] ? '1' : '0');
            }
            kinds.add(s.toString());
        }
        return kinds.size();
    }

    char verdict(int i) {
        int x = lang(i).follow(way);
        return !lang(i).meets(x, false) ? '+' : lang(i).meets(x, true) ? '?' : '-';
    }

    int many(int i, int letters) {
        lang(i);
        if (letters < 1 || letters > 8) throw iae();
        return many(lang(i), letters);
    }

    int sign(char c) {
        if ("a!&|XFGU".indexOf(c) < 0) throw iae();
        if (text.length() == 30) throw ise();
        text += c;
        return text.length();
    }

    int erase() {
        int n = text.length();
        text = "";
        return n;
    }

    boolean holds() {
        if (!isFormula(text) || loop.isEmpty()) throw uoe();
        return said(text, 0, way, loop, 0, new HashMap<>());
    }

    int agrees(int i, int letters) {
        lang(i);
        if (letters < 1 || letters > 6) throw iae();
        if (!isFormula(text)) throw uoe();
        int n = 0;
        for (int k = 1; k <= letters; k++) {
            for (String[] lasso : lassos(k)) {
                n += lang(i).has(lasso[0], lasso[1]) == said(text, 0, lasso[0], lasso[1], 0, new HashMap<>()) ? 1 : 0;
            }
        }
        return n;
    }

    int position(int player, int colour) {
        if (player < 0 || player > 1 || colour < 0 || colour > 5) throw iae();
        if (positions.size() == 10) throw ise();
        positions.add(new int[] {player, colour});
        return positions.size() - 1;
    }

    int pos(int p) {
        if (p < 0 || p >= positions.size()) throw ioobe();
        return p;
    }

    boolean way(int p, int q) {
        pos(p);
        pos(q);
        ways[p][q] = !ways[p][q];
        return ways[p][q];
    }

    boolean wins(int p) {
        pos(p);
        return winning()[p];
    }

    int move(int p) {
        pos(p);
        boolean[] won = winning();
        if (won[p] != (positions.get(p)[0] == 0)) throw nse();
        for (int q = 0; q < positions.size(); q++) {
            if (ways[p][q] && won[q] == won[p]) return q;
        }
        throw new AssertionError("the winner cannot go on");
    }

    int won() {
        int n = 0;
        for (boolean w : winning()) n += w ? 1 : 0;
        return n;
    }

    long checksum() {
        long h = 7;
        for (Lang l : langs) {
            for (int x = 0; x < l.n; x++) {
                h = h * 31 + l.mul[x][l.gen('a')];
                h = h * 31 + l.mul[x][l.gen('b')];
            }
            int n = 0;
            for (int x = 0; x < l.n; x++) {
                for (int t = 0; t < l.n; t++) n += l.val[x + 1][t] ? 1 : 0;
            }
            h = h * 31 + n;
        }
        return h;
    }

    float share(int i) {
        int all = 0;
        for (int k = 1; k <= 5; k++) all += lassos(k).size();
        return (float) many(lang(i), 5) / (float) all;
    }

    double meanClasses() {
        if (langs.isEmpty()) throw new ArithmeticException();
        int n = 0;
        for (Lang l : langs) n += l.n;
        return (double) n / (double) langs.size();
    }
}
