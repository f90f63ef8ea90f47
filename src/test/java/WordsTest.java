import java.util.ArrayList;
import java.util.HashMap;
import java.util.LinkedHashMap;
import java.util.List;
import java.util.Map;
import java.util.Random;

/**
 * Small languages once more, from lassos alone: which words surroundings tell apart is found by trying
 * surroundings, and all that is said of classes, closures, chains and what remains follows from that.
 * No deeds, no pairs and no tables: a language is only asked whether it has a lasso.
 */
public final class WordsTest {
    interface Lassos {
        boolean has(String way, String loop);
    }

    static int asked = 0;
    static int wrong = 0;
    static String place = "";

    static void is(String what, Object got, Object due) {
        asked++;
        if (got.equals(due)) return;
        wrong++;
        if (wrong < 20) System.out.println(place + what + " answered " + got + ", due is " + due);
    }

    /** The same lassos; of short ones the answers are kept. */
    static Lassos kept(Lassos lassos) {
        Map<String, Boolean> answers = new HashMap<>();
        return (way, loop) -> {
            if (way.length() + loop.length() > 12) return lassos.has(way, loop);
            String key = way + "/" + loop;
            Boolean answer = answers.get(key);
            if (answer == null) {
                answer = lassos.has(way, loop);
                answers.put(key, answer);
            }
            return answer;
        };
    }

    /** All words with up to some letters, the empty one first, in the order of the document. */
    static List<String> words(int letters) {
        List<String> words = new ArrayList<>();
        words.add("");
        for (int i = 0; words.get(i).length() < letters; i++) {
            words.add(words.get(i) + "a");
            words.add(words.get(i) + "b");
        }
        return words;
    }

    final Lassos lassos;
    final List<String> around;
    final List<String> first = new ArrayList<>();
    final Map<String, Integer> number = new LinkedHashMap<>();
    final Map<String, Integer> classOf = new HashMap<>();
    final Map<String, Character> verdicts = new HashMap<>();
    int[][] product;

    /** Words with up to longest letters stand around, and words with one more are looked at. */
    WordsTest(Lassos lassos, int longest) {
        this.lassos = lassos;
        around = words(longest);
        for (String word : words(longest + 1)) {
            if (!word.isEmpty() && number.putIfAbsent(told(word), first.size()) == null) first.add(word);
        }
        product = new int[first.size()][first.size()];
        for (int i = 0; i < first.size(); i++) {
            for (int k = 0; k < first.size(); k++) product[i][k] = classOf(first.get(i) + first.get(k));
        }
    }

    String told(String word) {
        StringBuilder answers = new StringBuilder();
        for (String ahead : around) {
            for (String behind : around) {
                for (String loop : around) {
                    if (!loop.isEmpty()) answers.append(lassos.has(ahead + word + behind, loop) ? '1' : '0');
                }
                answers.append(lassos.has(ahead, word + behind) ? '1' : '0');
            }
        }
        return answers.toString();
    }

    int classOf(String word) {
        return classOf.computeIfAbsent(word, w -> number.getOrDefault(told(w), -7));
    }

    int power(int i) {
        int power = i;
        for (int k = 0; k <= first.size() && product[power][power] != power; k++) power = product[power][i];
        return power;
    }

    String wordOf(int i) {
        return i < 0 ? "" : first.get(i);
    }

    String left(String way) {
        StringBuilder answers = new StringBuilder();
        for (String behind : around) {
            for (String loop : around) {
                if (!loop.isEmpty()) answers.append(lassos.has(way + behind, loop) ? '1' : '0');
            }
        }
        return answers.toString();
    }

    int residuals() {
        Map<String, Boolean> left = new HashMap<>();
        for (String way : words(around.get(around.size() - 1).length() + 1)) left.put(left(way), true);
        return left.size();
    }

    char verdict(String way) {
        return verdicts.computeIfAbsent(way, this::seek);
    }

    char seek(String way) {
        boolean isFirst = lassos.has(way, "a");
        for (String behind : around) {
            for (String loop : around) {
                if (!loop.isEmpty() && lassos.has(way + behind, loop) != isFirst) return '?';
            }
        }
        return isFirst ? '+' : '-';
    }

    /** Whether some beginning of the lasso's word has this verdict; all come in the first letters. */
    boolean isBegun(String way, String loop, char verdict) {
        StringBuilder word = new StringBuilder(way);
        for (int i = 0; i <= first.size() + 1; i++) word.append(loop);
        for (int i = 0; i <= word.length(); i++) {
            if (verdict(word.substring(0, i)) == verdict) return true;
        }
        return false;
    }

    boolean isClosed(String way, String loop) {
        return !isBegun(way, loop, '-');
    }

    Lassos turned(char how) {
        switch (how) {
            case 'n': return (way, loop) -> !lassos.has(way, loop);
            case 'c': return (way, loop) -> isClosed(way, loop);
            case 'l': return (way, loop) -> lassos.has(way, loop) || !isClosed(way, loop);
            default: return (way, loop) -> isBegun(way, loop, '+');
        }
    }

    boolean isLike(Lassos other) {
        for (int i = -1; i < first.size(); i++) {
            for (int t = 0; t < first.size(); t++) {
                if (lassos.has(wordOf(i), wordOf(t)) != other.has(wordOf(i), wordOf(t))) return false;
            }
        }
        return true;
    }

    int chain(boolean isIn) {
        int most = 0;
        for (int p = 0; p < first.size(); p++) {
            for (int e = 0; e < first.size(); e++) {
                boolean isLoop = product[p][e] == p && product[e][e] == e;
                if (isLoop && lassos.has(wordOf(p), wordOf(e)) == isIn) most = Math.max(most, chainFrom(p, e));
            }
        }
        return most;
    }

    int chainFrom(int p, int e) {
        int most = 1;
        for (int s = 0; s < first.size(); s++) {
            if (product[p][s] != p) continue;
            int next = power(product[e][s]);
            if (lassos.has(wordOf(p), wordOf(e)) != lassos.has(wordOf(p), wordOf(next))) {
                most = Math.max(most, 1 + chainFrom(p, next));
            }
        }
        return most;
    }

    boolean isA(char kind) {
        Lassos all = (way, loop) -> true;
        boolean is = true;
        switch (kind) {
            case 'e': return verdict("") == '-';
            case 'u': return verdict("") == '+';
            case 'o': return isLike(turned('i'));
            case 'c': return isLike(turned('c'));
            case 'd':
                for (int i = -1; i < first.size(); i++) {
                    for (int t = 0; t < first.size(); t++) is &= isClosed(wordOf(i), wordOf(t));
                }
                return is;
            case 'g': return chain(true) < 2;
            case 'f': return chain(false) < 2;
            case 'a':
                for (int i = 0; i < first.size(); i++) is &= product[i][power(i)] == power(i);
                return is;
            case 'k':
                for (int i = 0; i < first.size(); i++) {
                    for (int k = 0; k < first.size(); k++) is &= product[i][k] == product[k][i];
                }
                return is;
            default: return isLike(shifted(lassos, 'a')) && isLike(shifted(lassos, 'b'));
        }
    }

    static Lassos shifted(Lassos lassos, char letter) {
        return (way, loop) -> lassos.has(letter + way, loop);
    }

    /** Compares all that is said of one language of the house. */
    void check(Wagnerhall x, int l, Random random) {
        is("classes", x.classes(l), first.size());
        if (x.classes(l) != first.size()) return;
        int idempotents = 0;
        for (int i = -1; i < first.size(); i++) {
            if (i >= 0) is("length " + i, x.length(l, i), first.get(i).length());
            if (i >= 0 && product[i][i] == i) idempotents++;
            for (int k = 0; k < first.size(); k++) {
                if (i >= 0) is("product " + i + " " + k, x.product(l, i, k), product[i][k]);
                is("value " + i + " " + k, x.value(l, i, k), lassos.has(wordOf(i), wordOf(k)));
            }
        }
        is("idempotents", x.idempotents(l), idempotents);
        is("residuals", x.residuals(l), residuals());
        is("chain in", x.chain(l, true), chain(true));
        is("chain out", x.chain(l, false), chain(false));
        for (char kind : "euocdgfakp".toCharArray()) is("isA " + kind, x.isA(l, kind), isA(kind));
        for (int i = 0; i < 4; i++) {
            String way = letters(random, i, 10);
            String loop = letters(random, 1, 10);
            x.wipe();
            for (char c : way.toCharArray()) x.type(c, false);
            for (char c : loop.toCharArray()) x.type(c, true);
            is("has " + way + " " + loop, x.has(l), lassos.has(way, loop));
            is("verdict " + way, x.verdict(l), verdict(way));
            if (i > 0) is("classOf " + way, x.classOf(l), classOf(way));
        }
    }

    static String letters(Random random, int least, int most) {
        StringBuilder s = new StringBuilder();
        for (int i = least + random.nextInt(most - least + 1); i > 0; i--) s.append(random.nextBoolean() ? 'a' : 'b');
        return s.toString();
    }

    static boolean checkOne(Wagnerhall x, int l, Lassos lassos, String name, int most, Random random) {
        int longest = x.length(l, x.classes(l) - 1);
        if (longest > most) return false;
        String before = place;
        place = before + name + ": ";
        new WordsTest(lassos, Math.max(longest, 2)).check(x, l, random);
        place = before;
        return true;
    }

    /** A language, all that it is turned and shifted to, and what it makes with another one. */
    static void checkAll(Wagnerhall x, int l, Lassos lassos, Lassos other, int most, Random random) {
        if (!checkOne(x, l, lassos, "itself", most, random)) return;
        WordsTest one = new WordsTest(lassos, Math.max(2, x.length(l, x.classes(l) - 1)));
        for (char how : "ncli".toCharArray()) {
            checkOne(x, x.turn(l, how), kept(one.turned(how)), "turn " + how, most, random);
            x.drop();
        }
        for (char c : "ab".toCharArray()) {
            checkOne(x, x.shift(l, c), kept(shifted(lassos, c)), "shift " + c, most, random);
            x.drop();
        }
        checkJoined(x, '&', kept((way, loop) -> lassos.has(way, loop) && other.has(way, loop)), most, random);
        checkJoined(x, '|', kept((way, loop) -> lassos.has(way, loop) || other.has(way, loop)), most, random);
        checkJoined(x, 'x', kept((way, loop) -> lassos.has(way, loop) != other.has(way, loop)), most, random);
    }

    static void checkJoined(Wagnerhall x, char by, Lassos lassos, int most, Random random) {
        checkOne(x, x.join(0, 1, by), lassos, "join " + by, most, random);
        x.drop();
    }

    static Lassos draw(Wagnerhall x, Random random) {
        int states = 1 + random.nextInt(3);
        int m = x.machine(states);
        HelperModel.Mach plain = new HelperModel.Mach(states);
        plain.how = "bcprsm".charAt(random.nextInt(6));
        plain.table = random.nextInt(65536);
        x.accept(m, plain.how, plain.table);
        int most = 1 + random.nextInt(3);
        for (int i = random.nextInt(2 * states) + states * most; i > 0; i--) {
            int from = random.nextInt(states);
            int letter = random.nextInt(2);
            int to = random.nextInt(states);
            int marks = random.nextInt(3) == 0 ? 0 : random.nextInt(16);
            plain.marks[from][letter][to] = marks;
            x.edge(m, from, (char) ('a' + letter), to, marks);
        }
        place += states + " states, " + plain.how + plain.table + " " + java.util.Arrays.deepToString(plain.marks) + " ";
        return kept(plain::takes);
    }

    public static void main(String[] args) {
        int runs = args.length > 0 ? Integer.parseInt(args[0]) : 30;
        int seed = args.length > 1 ? Integer.parseInt(args[1]) : 1;
        int most = args.length > 2 ? Integer.parseInt(args[2]) : 3;
        for (int run = 0; run < runs; run++) {
            Random random = new Random(seed * 100000L + run);
            place = "run " + run + ": ";
            Wagnerhall x = new Wagnerhall();
            Lassos one = draw(x, random);
            Lassos two = draw(x, random);
            try {
                x.language(0);
                x.language(1);
            } catch (UnsupportedOperationException e) {
                continue;
            }
            if (x.classes(0) * x.classes(1) > 100) continue;
            checkAll(x, 0, one, two, most, random);
        }
        System.out.println(asked + " answers asked, " + wrong + " wrong");
        System.exit(wrong == 0 ? 0 : 1);
    }
}
