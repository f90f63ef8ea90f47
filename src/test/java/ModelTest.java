import java.util.Random;

/** Long runs of calls, drawn with fixed seeds, on the class and on the plain model; all answers must be alike. */
public final class ModelTest {
    interface Call {
        Object run();
    }

    static int wrong = 0;
    static int calls = 0;
    static int runs = 0;
    static final java.util.TreeMap<String, int[]> seen = new java.util.TreeMap<>();

    static String answer(Call call) {
        try {
            return String.valueOf(call.run());
        } catch (IllegalArgumentException | IllegalStateException | IndexOutOfBoundsException
                 | UnsupportedOperationException | java.util.NoSuchElementException | ArithmeticException e) {
            return "throws " + e.getClass().getSimpleName();
        }
    }

    final Random random;
    final Wagnerhall x = new Wagnerhall();
    final HelperModel y = new HelperModel();
    final StringBuilder story = new StringBuilder();
    final int mostStates;
    boolean isWrong = false;

    ModelTest(long seed, int mostStates) {
        random = new Random(seed);
        this.mostStates = mostStates;
    }

    void both(String name, Call one, Call two) {
        if (isWrong) return;
        story.append(name).append('\n');
        calls++;
        String got = answer(one);
        String due = answer(two);
        String kind = name.substring(0, name.indexOf('(')) + (due.startsWith("throws") ? " " + due : "");
        seen.computeIfAbsent(kind, k -> new int[1])[0]++;
        if (!got.equals(due)) {
            wrong++;
            isWrong = true;
            if (wrong < 4) System.out.println(story + "  answered " + got + ", due is " + due);
        }
    }

    int below(int n, int bad) {
        if (random.nextInt(12) == 0) {
            int[] odd = {-1, n, n + 1, Integer.MIN_VALUE, Integer.MAX_VALUE, -2, bad};
            return odd[random.nextInt(odd.length)];
        }
        return n <= 0 ? 0 : random.nextInt(n);
    }

    char one(String good) {
        if (random.nextInt(14) == 0) {
            String odd = "cAxbn&|!U\0z1e\uffff";
            return odd.charAt(random.nextInt(odd.length()));
        }
        return good.charAt(random.nextInt(good.length()));
    }

    int lang() {
        return below(y.langs.size(), 12);
    }

    int mach() {
        return below(y.machines.size(), 6);
    }

    int classIn(int l) {
        return below(l >= 0 && l < y.langs.size() ? y.langs.get(l).n : 3, 100);
    }

    void newMachine() {
        int states = random.nextInt(15) == 0 ? below(6, 0) : 1 + random.nextInt(mostStates);
        both("machine(" + states + ")", () -> x.machine(states), () -> y.machine(states));
        if (y.machines.isEmpty()) return;
        int m = y.machines.size() - 1;
        int density = 1 + random.nextInt(9);
        int span = new int[] {2, 2, 4, 16}[random.nextInt(4)];
        int n = y.machines.get(m).states;
        for (int p = 0; p < n; p++) {
            for (char c = 'a'; c <= 'b'; c++) {
                boolean isSingle = random.nextInt(3) > 0;
                int target = random.nextInt(n);
                for (int q = 0; q < n; q++) {
                    if (isSingle ? q == target && random.nextInt(8) > 0 : random.nextInt(10) < density) edge(m, p, c, q, random.nextInt(span));
                }
            }
        }
        accept(m);
    }

    void edge(int m, int p, char c, int q, int marks) {
        both("edge(" + m + "," + p + "," + c + "," + q + "," + marks + ")", () -> x.edge(m, p, c, q, marks), () -> y.edge(m, p, c, q, marks));
    }

    void accept(int m) {
        char how = one("bcprsm");
        int table = random.nextInt(12) == 0 ? (random.nextBoolean() ? -1 : 65536) : random.nextInt(65536);
        both("accept(" + m + "," + how + "," + table + ")", () -> x.accept(m, how, table), () -> y.accept(m, how, table));
    }

    void type() {
        char c = one("ab");
        boolean isLoop = random.nextBoolean();
        both("type(" + c + "," + isLoop + ")", () -> x.type(c, isLoop), () -> y.type(c, isLoop));
    }

    void lasso() {
        both("wipe()", () -> x.wipe(), () -> y.wipe());
        int n = random.nextInt(12);
        for (int i = 0; i < n; i++) type();
    }

    void machineCall() {
        int m = mach();
        int n = m >= 0 && m < y.machines.size() ? y.machines.get(m).states : 2;
        int p = below(n, 4);
        int q = below(n, 4);
        char c = one("ab");
        boolean isWhole = random.nextBoolean();
        switch (random.nextInt(8)) {
            case 0: newMachine(); break;
            case 1: edge(m, p, c, q, below(16, 16)); break;
            case 2: both("cut(" + m + "," + p + "," + c + "," + q + ")", () -> x.cut(m, p, c, q), () -> y.cut(m, p, c, q)); break;
            case 3: accept(m); break;
            case 4: both("isDeterministic(" + m + "," + isWhole + ")", () -> x.isDeterministic(m, isWhole), () -> y.isDeterministic(m, isWhole)); break;
            case 5: both("takes(" + m + ")", () -> x.takes(m), () -> y.takes(m)); break;
            case 6: both("deeds(" + m + ")", () -> x.deeds(m), () -> y.deeds(m)); break;
            default: both("language(" + m + ")", () -> x.language(m), () -> y.language(m)); break;
        }
    }

    void makeCall() {
        int l = lang();
        int k = lang();
        char how = one("ncli");
        char by = one("&|x");
        char c = one("ab");
        int m = mach();
        switch (random.nextInt(6)) {
            case 0: both("turn(" + l + "," + how + ")", () -> x.turn(l, how), () -> y.turn(l, how)); break;
            case 1: case 2: both("join(" + l + "," + k + "," + by + ")", () -> x.join(l, k, by), () -> y.join(l, k, by)); break;
            case 3: both("shift(" + l + "," + c + ")", () -> x.shift(l, c), () -> y.shift(l, c)); break;
            case 4:
                if (y.langs.size() > 8 || random.nextInt(3) == 0) both("drop()", () -> x.drop(), () -> y.drop());
                break;
            default: both("language(" + m + ")", () -> x.language(m), () -> y.language(m)); break;
        }
    }

    void lookCall() {
        int l = lang();
        int k = random.nextInt(5) == 0 ? l : lang();
        int i = classIn(l);
        int j = classIn(l);
        boolean is = random.nextBoolean();
        char kind = one("euocdgfakp");
        int letters = random.nextInt(8) == 0 ? below(10, 9) : 1 + random.nextInt(5);
        switch (random.nextInt(19)) {
            case 0: both("languages()", () -> x.languages(), () -> y.langs.size()); break;
            case 1: both("has(" + l + ")", () -> x.has(l), () -> y.has(l)); break;
            case 2: both("classes(" + l + ")", () -> x.classes(l), () -> y.lang(l).n); break;
            case 3: both("length(" + l + "," + i + ")", () -> x.length(l, i), () -> y.length(l, i)); break;
            case 4: both("product(" + l + "," + i + "," + j + ")", () -> x.product(l, i, j), () -> y.product(l, i, j)); break;
            case 5: both("classOf(" + l + ")", () -> x.classOf(l), () -> y.classOf(l)); break;
            case 6: both("idempotents(" + l + ")", () -> x.idempotents(l), () -> y.idempotents(l)); break;
            case 7: both("value(" + l + "," + i + "," + j + ")", () -> x.value(l, i, j), () -> y.value(l, i, j)); break;
            case 8: both("isSame(" + l + "," + k + ")", () -> x.isSame(l, k), () -> y.isSame(l, k)); break;
            case 9: both("isWithin(" + l + "," + k + ")", () -> x.isWithin(l, k), () -> y.isWithin(l, k)); break;
            case 10: both("apart(" + l + "," + k + ")", () -> x.apart(l, k), () -> y.apart(l, k)); break;
            case 11: case 12: both("isA(" + l + "," + kind + ")", () -> x.isA(l, kind), () -> y.isA(l, kind)); break;
            case 13: both("chain(" + l + "," + is + ")", () -> x.chain(l, is), () -> HelperModel.chain(y.lang(l), is)); break;
            case 14: both("residuals(" + l + ")", () -> x.residuals(l), () -> y.residuals(l)); break;
            case 15: both("verdict(" + l + ")", () -> x.verdict(l), () -> y.verdict(l)); break;
            case 16: both("many(" + l + "," + letters + ")", () -> x.many(l, letters), () -> y.many(l, letters)); break;
            case 17: both("share(" + l + ")", () -> x.share(l), () -> y.share(l)); break;
            default: both("agrees(" + l + "," + letters + ")", () -> x.agrees(l, letters), () -> y.agrees(l, letters)); break;
        }
    }

    void sign(char c) {
        both("sign(" + c + ")", () -> x.sign(c), () -> y.sign(c));
    }

    void formula(int depth) {
        String signs = depth > 4 ? "a" : depth > 2 ? "aa!X" : "a!&|XFGUUFG";
        char c = signs.charAt(random.nextInt(signs.length()));
        sign(c);
        if (c != 'a') formula(depth + 1);
        if ("&|U".indexOf(c) >= 0) formula(depth + 1);
    }

    void formulaCall() {
        switch (random.nextInt(4)) {
            case 0: case 1:
                both("erase()", () -> x.erase(), () -> y.erase());
                formula(0);
                break;
            case 2: sign(one("a!&|XFGU")); break;
            default: both("holds()", () -> x.holds(), () -> y.holds()); break;
        }
        both("holds()", () -> x.holds(), () -> y.holds());
    }

    void gameCall() {
        int player = below(2, 2);
        int colour = below(6, 6);
        int n = y.positions.size();
        int p = below(n, 10);
        int q = below(n, 10);
        switch (random.nextInt(9)) {
            case 0:
                if (n < 6 || random.nextInt(3) == 0 && choices() < 2000) both("position(" + player + "," + colour + ")", () -> x.position(player, colour), () -> y.position(player, colour));
                break;
            case 1: case 2: case 3:
                if (choices() < 3000) both("way(" + p + "," + q + ")", () -> x.way(p, q), () -> y.way(p, q));
                break;
            case 4: case 5: both("wins(" + p + ")", () -> x.wins(p), () -> y.wins(p)); break;
            case 6: case 7: both("move(" + p + ")", () -> x.move(p), () -> y.move(p)); break;
            default: both("won()", () -> x.won(), () -> y.won()); break;
        }
    }

    long choices() {
        long n = 1;
        for (int i = 0; i < y.positions.size(); i++) {
            int w = 0;
            for (boolean b : y.ways[i]) w += b ? 1 : 0;
            if (y.positions.get(i)[0] == 0) n *= Math.max(1, w);
        }
        return n;
    }

    void run(int most) {
        runs++;
        newMachine();
        newMachine();
        for (int i = 0; i < most && !isWrong; i++) {
            int w = random.nextInt(20);
            if (w < 2) lasso();
            else if (w < 3) {
                int at = below(10, 10);
                boolean isLoop = random.nextBoolean();
                both("letterAt(" + at + "," + isLoop + ")", () -> x.letterAt(at, isLoop), () -> y.letterAt(at, isLoop));
            } else if (w < 6) machineCall();
            else if (w < 9) makeCall();
            else if (w < 15) lookCall();
            else if (w < 16) formulaCall();
            else if (w < 19) gameCall();
            else {
                both("checksum()", () -> x.checksum(), () -> y.checksum());
                both("meanClasses()", () -> x.meanClasses(), () -> y.meanClasses());
                both("isSound()", () -> x.isSound(), () -> true);
            }
        }
        both("checksum()", () -> x.checksum(), () -> y.checksum());
        for (int l = 0; l < y.langs.size(); l++) {
            int k = l;
            for (char kind : "euocdgfakp".toCharArray()) both("isA(" + l + "," + kind + ")", () -> x.isA(k, kind), () -> y.isA(k, kind));
            both("share(" + l + ")", () -> x.share(k), () -> y.share(k));
        }
    }

    public static void main(String[] args) {
        int count = args.length > 0 ? Integer.parseInt(args[0]) : 150;
        long from = args.length > 1 ? Long.parseLong(args[1]) : 1;
        int most = args.length > 2 ? Integer.parseInt(args[2]) : 0;
        for (long seed = from; seed < from + count; seed++) {
            int states = most > 0 ? most : 1 + (int) (seed % 3);
            new ModelTest(seed, states).run(250);
        }
        System.out.println(runs + " runs, " + calls + " calls, " + wrong + " wrong");
        if (args.length > 3) seen.forEach((k, v) -> System.out.println("  " + k + " " + v[0]));
        System.exit(wrong == 0 ? 0 : 1);
    }
}
