import java.util.Random;

/** Languages with many classes, and machines with many runs: everything that can be asked, on the class and on the model. */
public final class LargeTest {
    interface Ask {
        Object of();
    }

    static int asked = 0;
    static int wrong = 0;

    static Object answer(Ask ask) {
        try {
            return ask.of();
        } catch (RuntimeException e) {
            return e.getClass().getSimpleName();
        }
    }

    static void same(String what, Ask got, Ask due) {
        asked++;
        Object one = answer(got);
        Object two = answer(due);
        if (!one.equals(two)) {
            wrong++;
            if (wrong < 20) System.out.println(what + " answered " + one + ", due is " + two);
        }
    }

    final Wagnerhall x = new Wagnerhall();
    final HelperModel y = new HelperModel();
    String name = "";

    void machine(String text) {
        name = name + " / " + text;
        String[] parts = text.split(" ");
        int m = x.machine(Integer.parseInt(parts[0]));
        y.machine(Integer.parseInt(parts[0]));
        int table = parts[1].length() > 1 ? Integer.parseInt(parts[1].substring(1)) : 0;
        x.accept(m, parts[1].charAt(0), table);
        y.accept(m, parts[1].charAt(0), table);
        for (int i = 2; i < parts.length; i++) {
            String e = parts[i];
            int marks = Integer.parseInt(e.substring(4));
            x.edge(m, e.charAt(0) - '0', e.charAt(1), e.charAt(2) - '0', marks);
            y.edge(m, e.charAt(0) - '0', e.charAt(1), e.charAt(2) - '0', marks);
        }
        same(name + " deeds", () -> x.deeds(m), () -> y.deeds(m));
        same(name + " language", () -> x.language(m), () -> y.language(m));
    }

    void word(String way, String loop) {
        x.wipe();
        y.wipe();
        for (char c : way.toCharArray()) x.type(c, false);
        for (char c : loop.toCharArray()) x.type(c, true);
        y.way = way;
        y.loop = loop;
    }

    void askAll(Random random) {
        for (int i = 0; i < y.langs.size(); i++) {
            int l = i;
            String it = name + " language " + l + " ";
            int n = y.langs.get(l).n;
            same(it + "classes", () -> x.classes(l), () -> n);
            same(it + "lengths and products", () -> classesOf(l, n), () -> classesOfModel(l, n));
            same(it + "idempotents", () -> x.idempotents(l), () -> y.idempotents(l));
            same(it + "chain in", () -> x.chain(l, true), () -> HelperModel.chain(y.lang(l), true));
            same(it + "chain out", () -> x.chain(l, false), () -> HelperModel.chain(y.lang(l), false));
            same(it + "residuals", () -> x.residuals(l), () -> y.residuals(l));
            same(it + "share", () -> x.share(l), () -> y.share(l));
            same(it + "many", () -> x.many(l, 7), () -> y.many(l, 7));
            for (char kind : "euocdgfakp".toCharArray()) same(it + kind, () -> x.isA(l, kind), () -> y.isA(l, kind));
            for (int k = 0; k < 12; k++) {
                word(letters(random, 0, 10), letters(random, 1, 10));
                same(it + "has", () -> x.has(l), () -> y.has(l));
                same(it + "verdict", () -> x.verdict(l), () -> y.verdict(l));
                same(it + "classOf", () -> x.classOf(l), () -> y.classOf(l));
            }
        }
        same(name + " checksum", () -> x.checksum(), () -> y.checksum());
        same(name + " isSound", () -> x.isSound(), () -> true);
    }

    String classesOf(int l, int n) {
        StringBuilder s = new StringBuilder();
        for (int i = -1; i < n; i++) {
            s.append(i < 0 ? 0 : x.length(l, i)).append(':');
            for (int k = 0; k < n; k++) s.append(i < 0 ? 0 : x.product(l, i, k)).append(x.value(l, i, k) ? '+' : '-');
        }
        return s.toString();
    }

    String classesOfModel(int l, int n) {
        StringBuilder s = new StringBuilder();
        for (int i = -1; i < n; i++) {
            s.append(i < 0 ? 0 : y.length(l, i)).append(':');
            for (int k = 0; k < n; k++) s.append(i < 0 ? 0 : y.product(l, i, k)).append(y.value(l, i, k) ? '+' : '-');
        }
        return s.toString();
    }

    static String letters(Random random, int least, int most) {
        StringBuilder s = new StringBuilder();
        for (int i = least + random.nextInt(most - least + 1); i > 0; i--) s.append(random.nextBoolean() ? 'a' : 'b');
        return s.toString();
    }

    void makeMore() {
        for (char how : "ncli".toCharArray()) same(name + " turn " + how, () -> x.turn(0, how), () -> y.turn(0, how));
        for (char c : "ab".toCharArray()) same(name + " shift " + c, () -> x.shift(0, c), () -> y.shift(0, c));
        same(name + " itself", () -> x.join(0, 0, '&'), () -> y.join(0, 0, '&'));
    }

    static void pair(String one, String two) {
        Random random = new Random(one.hashCode());
        LargeTest t = new LargeTest();
        t.machine(one);
        t.machine(two);
        if (t.y.langs.size() == 2) {
            for (char by : "&|x".toCharArray()) same(t.name + " join " + by, () -> t.x.join(0, 1, by), () -> t.y.join(0, 1, by));
            same(t.name + " within", () -> t.x.isWithin(0, 1), () -> t.y.isWithin(0, 1));
            same(t.name + " within, turned", () -> t.x.isWithin(1, 0), () -> t.y.isWithin(1, 0));
            same(t.name + " apart", () -> t.x.apart(0, 1), () -> t.y.apart(0, 1));
            if (t.y.langs.size() > 2) {
                // What was joined is joined once more: its ways and loops are of many kinds.
                same(t.name + " again", () -> t.x.join(2, 0, 'x'), () -> t.y.join(2, 0, 'x'));
                same(t.name + " with itself", () -> t.x.join(2, 2, '|'), () -> t.y.join(2, 2, '|'));
            }
        }
        if (t.y.langs.size() > 0 && t.y.langs.size() < 6) t.makeMore();
        t.askAll(random);
    }

    static String drawn(Random random, int states) {
        StringBuilder s = new StringBuilder();
        s.append(states).append(' ').append("bcprsm".charAt(random.nextInt(6))).append(random.nextInt(65536));
        int more = random.nextInt(4);
        for (int p = 0; p < states; p++) {
            for (char c = 'a'; c <= 'b'; c++) {
                boolean[] to = new boolean[4];
                if (random.nextInt(4) > 0) to[random.nextInt(states)] = true;
                if (random.nextInt(6) < more) to[random.nextInt(states)] = true;
                for (int q = 0; q < states; q++) {
                    if (to[q]) s.append(' ').append(p).append(c).append(q).append(':').append(random.nextInt(random.nextBoolean() ? 16 : 3));
                }
            }
        }
        return s.toString();
    }

    static void takes() {
        Random random = new Random(77);
        for (int i = 0; i < 3000; i++) {
            LargeTest t = new LargeTest();
            String text = drawn(random, 3 + random.nextInt(2));
            String[] parts = text.split(" ");
            t.x.machine(parts[0].charAt(0) - '0');
            t.y.machine(parts[0].charAt(0) - '0');
            t.x.accept(0, parts[1].charAt(0), Integer.parseInt(parts[1].substring(1)));
            t.y.accept(0, parts[1].charAt(0), Integer.parseInt(parts[1].substring(1)));
            for (int k = 2; k < parts.length; k++) {
                String e = parts[k];
                int marks = Integer.parseInt(e.substring(4));
                t.x.edge(0, e.charAt(0) - '0', e.charAt(1), e.charAt(2) - '0', marks);
                t.y.edge(0, e.charAt(0) - '0', e.charAt(1), e.charAt(2) - '0', marks);
            }
            for (int k = 0; k < 8; k++) {
                t.word(letters(random, 0, 4), letters(random, 1, 1 + k));
                same(text + " takes " + t.y.way + "(" + t.y.loop + ")", () -> t.x.takes(0), () -> t.y.takes(0));
            }
        }
    }

    public static void main(String[] args) {
        takes();
        pair(HelperHouse.CLASSES_100, HelperHouse.OFTEN_A);
        pair(HelperHouse.CLASSES_101, HelperHouse.DEEDS_301);
        pair(HelperHouse.JOIN_100_ONE, HelperHouse.JOIN_100_TWO);
        pair(HelperHouse.JOIN_101_ONE, HelperHouse.JOIN_101_TWO);
        pair(HelperHouse.PAIRS_600_ONE, HelperHouse.PAIRS_600_TWO);
        pair(HelperHouse.PAIRS_601_ONE, HelperHouse.PAIRS_601_TWO);
        pair(HelperHouse.DEEDS_300, HelperHouse.OFTEN_A);
        // Just one a and then b for ever, or just one b and then a for ever.
        pair("3 b 0a1:0 0b0:0 1b1:1", "3 b 0b1:0 0a0:0 1a1:1");
        pair("3 b 0a1:0 1b1:1 1a2:0 2b2:1", "4 b 0b1:0 1a1:1 1b2:0 2b3:0 3a3:1");
        Random random = new Random(5);
        int pairs = args.length > 0 ? Integer.parseInt(args[0]) : 60;
        for (int i = 0; i < pairs; i++) pair(drawn(random, 2 + random.nextInt(3)), drawn(random, 2 + random.nextInt(3)));
        System.out.println(asked + " answers asked, " + wrong + " wrong");
        System.exit(wrong == 0 ? 0 : 1);
    }
}
