import java.util.NoSuchElementException;

/** What the tests that ask houses by hand have in common: answers compared, refusals, and ready languages. */
class HelperHouse {
    interface Build {
        void on(Wagnerhall x);
    }

    interface Ask {
        Object of(Wagnerhall x);
    }

    static final Class<?> IAE = IllegalArgumentException.class;
    static final Class<?> ISE = IllegalStateException.class;
    static final Class<?> IOOBE = IndexOutOfBoundsException.class;
    static final Class<?> UOE = UnsupportedOperationException.class;
    static final Class<?> NSE = NoSuchElementException.class;
    static final Class<?> AE = ArithmeticException.class;

    /** Where the test stands: put in front of what was wrong. */
    static String place = "";
    static int asked = 0;
    static int wrong = 0;

    static void fail(String text) {
        wrong++;
        System.out.println(place + ": " + text);
    }

    static void is(String what, Object got, Object due) {
        asked++;
        if (!due.equals(got)) fail(what + " answered " + got + ", due is " + due);
    }

    static void end() {
        System.out.println(asked + " answers asked, " + wrong + " wrong");
        System.exit(wrong == 0 ? 0 : 1);
    }

    static Object answer(Ask ask, Wagnerhall x) {
        try {
            return ask.of(x);
        } catch (RuntimeException e) {
            return e.getClass();
        }
    }

    static Wagnerhall house(Build build) {
        Wagnerhall x = new Wagnerhall();
        build.on(x);
        return x;
    }

    /** The answer of a call on a house of its own. */
    static Object on(Build build, Ask ask) {
        return answer(ask, house(build));
    }

    /** Each of the calls throws just this, and a house that saw them all is like one that saw none. */
    static void refuses(String what, Build build, Class<?> due, Ask... calls) {
        for (int i = 0; i < calls.length; i++) is(what + ", call " + i, on(build, calls[i]), due);
        for (Ask probe : PROBES) {
            Wagnerhall one = house(build);
            for (Ask call : calls) answer(call, one);
            is(what + " changes nothing", probe.of(one), probe.of(house(build)));
        }
    }

    // What can be seen of a house, in parts that keep its calls under the 512 of the document.

    static final Ask[] PROBES = {
        HelperHouse::rowsAndNumbers, HelperHouse::games, HelperHouse::edges, x -> sets(x, 0), x -> sets(x, 3),
        HelperHouse::kinds, HelperHouse::values, HelperHouse::texts
    };

    static Object rowsAndNumbers(Wagnerhall x) {
        StringBuilder s = new StringBuilder();
        s.append(x.languages()).append(' ').append(x.checksum()).append(' ').append(x.won()).append(' ');
        s.append(answer(y -> y.meanClasses(), x)).append(x.isSound()).append(answer(y -> y.holds(), x)).append(lasso(x));
        for (int i = 0; i < 12; i++) {
            int k = i;
            s.append(answer(y -> y.has(k), x)).append(answer(y -> y.classOf(k), x)).append(answer(y -> y.verdict(k), x));
        }
        s.append(x.wipe()).append(x.erase()).append(answer(y -> y.machine(1), x)).append(answer(y -> y.position(0, 0), x));
        for (int i = 0; i < 13; i++) s.append(answer(y -> y.drop(), x));
        return s.toString();
    }

    /** Who wins where, and which ways there are. */
    static Object games(Wagnerhall x) {
        StringBuilder s = new StringBuilder();
        for (int i = 0; i < 10; i++) {
            int from = i;
            s.append(answer(y -> y.wins(from), x)).append(answer(y -> y.move(from), x));
        }
        // Ways told to positions that were not there would show when these come.
        for (int i = 0; i < 10; i++) s.append(answer(y -> y.position(0, 0), x));
        for (int i = 0; i < 100; i++) {
            int from = i / 10;
            int to = i % 10;
            s.append(answer(y -> y.way(from, to), x));
        }
        return s.toString();
    }

    /** What machines are and take, and which edges there are. */
    static Object edges(Wagnerhall x) {
        StringBuilder s = new StringBuilder();
        for (int i = 0; i < 6; i++) {
            int k = i;
            s.append(answer(y -> y.isDeterministic(k, true), x)).append(answer(y -> y.isDeterministic(k, false), x));
            s.append(answer(y -> y.takes(k), x)).append(answer(y -> y.deeds(k), x));
        }
        // Edges told to machines that were not there would show when these come.
        for (int i = 0; i < 6; i++) s.append(answer(y -> y.machine(4), x));
        for (int i = 0; i < 6; i++) {
            int k = i;
            s.append(cutAll(x, k)).append(answer(y -> y.edge(k, 0, 'a', 0, 0), x)).append(answer(y -> y.accept(k, 'b', 0), x));
        }
        return s.toString();
    }

    static String cutAll(Wagnerhall x, int machine) {
        StringBuilder s = new StringBuilder();
        for (int i = 0; i < 16; i++) {
            int from = i / 4;
            int to = i % 4;
            s.append(answer(y -> y.cut(machine, from, 'a', to), x)).append(answer(y -> y.cut(machine, from, 'b', to), x));
        }
        return s.toString();
    }

    /** Which sets of marks three machines accept. */
    static Object sets(Wagnerhall x, int first) {
        StringBuilder s = new StringBuilder();
        x.wipe();
        x.type('a', true);
        for (int i = first; i < first + 3; i++) {
            int k = i;
            if (answer(y -> y.isDeterministic(k, false), x) == IOOBE) break;
            cutAll(x, k);
            for (int set = 0; set < 16; set++) {
                x.edge(k, 0, 'a', 0, set);
                s.append(x.takes(k) ? '1' : '0');
            }
        }
        return s.toString();
    }

    /** What all languages are, and two more if there is room. */
    static Object kinds(Wagnerhall x) {
        StringBuilder s = new StringBuilder();
        s.append(answer(y -> y.shift(0, 'a'), x)).append(answer(y -> y.language(0), x));
        for (int i = 0; i < x.languages() && i < 12; i++) {
            for (char kind : "euocdgfakp".toCharArray()) s.append(x.isA(i, kind));
            s.append(x.classes(i)).append(' ').append(x.idempotents(i)).append(' ').append(x.residuals(i)).append(' ');
            s.append(x.chain(i, true)).append(x.chain(i, false)).append(x.many(i, 6)).append(' ').append(x.share(i));
        }
        return s.toString();
    }

    /** The first classes of all languages. */
    static Object values(Wagnerhall x) {
        StringBuilder s = new StringBuilder();
        int most = x.languages() > 6 ? 2 : 4;
        for (int i = 0; i < x.languages() && i < 12; i++) {
            int classes = Math.min(most, x.classes(i));
            for (int t = 0; t < classes; t++) {
                s.append(x.length(i, t)).append(x.value(i, -1, t));
                for (int k = 0; k < classes; k++) s.append(x.value(i, k, t)).append(x.product(i, k, t));
            }
        }
        return s.toString();
    }

    /** What the text says, also with more signs behind. */
    static Object texts(Wagnerhall x) {
        StringBuilder s = new StringBuilder();
        for (char sign : "a!&".toCharArray()) {
            for (int i = 0; i < x.languages() && i < 12; i++) {
                int k = i;
                s.append(answer(y -> y.agrees(k, 6), x)).append(' ');
            }
            s.append(answer(y -> y.holds(), x)).append(answer(y -> y.sign(sign), x)).append(' ');
        }
        return s.append(x.erase()).toString();
    }

    // Rows, machines, texts and games told in short.

    static void word(Wagnerhall x, String way, String loop) {
        x.wipe();
        for (char c : way.toCharArray()) x.type(c, false);
        for (char c : loop.toCharArray()) x.type(c, true);
    }

    static String lasso(Wagnerhall x) {
        StringBuilder s = new StringBuilder();
        for (int i = 0; i < 10 && letter(x, i, false) != NSE; i++) s.append(letter(x, i, false));
        s.append('(');
        for (int i = 0; i < 10 && letter(x, i, true) != NSE; i++) s.append(letter(x, i, true));
        return s.append(')').toString();
    }

    static Object letter(Wagnerhall x, int index, boolean isLoop) {
        return answer(y -> y.letterAt(index, isLoop), x);
    }

    /**
     * A machine told as a text: states, how it accepts with its table, edges as from, letter, to, marks.
     * The first row are states, the way and the table, each other row is an edge.
     */
    static int[][] told(String text) {
        String[] parts = text.split(" ");
        int[][] rows = new int[parts.length - 1][];
        int table = parts[1].length() > 1 ? Integer.parseInt(parts[1].substring(1)) : 0;
        rows[0] = new int[] {Integer.parseInt(parts[0]), parts[1].charAt(0), table};
        for (int i = 2; i < parts.length; i++) {
            String e = parts[i];
            rows[i - 1] = new int[] {e.charAt(0) - '0', e.charAt(1), e.charAt(2) - '0', Integer.parseInt(e.substring(4))};
        }
        return rows;
    }

    static int machine(Wagnerhall x, String text) {
        int[][] rows = told(text);
        int m = x.machine(rows[0][0]);
        x.accept(m, (char) rows[0][1], rows[0][2]);
        for (int i = 1; i < rows.length; i++) x.edge(m, rows[i][0], (char) rows[i][1], rows[i][2], rows[i][3]);
        return m;
    }

    static int lang(Wagnerhall x, String text) {
        return x.language(machine(x, text));
    }

    static void text(Wagnerhall x, String signs) {
        x.erase();
        for (char c : signs.toCharArray()) x.sign(c);
    }

    /** A game told as a text: positions by player and colour, then ways. */
    static void game(Wagnerhall x, String text) {
        for (String p : text.split(" ")) {
            if (p.indexOf('>') < 0) {
                x.position(p.charAt(0) - '0', p.charAt(1) - '0');
            } else {
                x.way(p.charAt(0) - '0', p.charAt(2) - '0');
            }
        }
    }

    /** a comes again and again. */
    static final String OFTEN_A = "1 b 0a0:1 0b0:0";
    /** b comes only finitely often. */
    static final String LAST_A = "1 c 0a0:0 0b0:1";
    /** Some a comes. */
    static final String SOME_A = "2 b 0a1:1 0b0:0 1a1:1 1b1:1";
    /** No a comes. */
    static final String NO_A = "1 m65535 0b0:0";
    /** The first letter is a. */
    static final String FIRST_A = "2 m65535 0a1:0 1a1:0 1b1:0";
    /** Each second letter, from the first, is a. */
    static final String EVEN_A = "2 m65535 0a1:0 1a0:0 1b0:0";
    static final String ALL = "1 m65535 0a0:0 0b0:0";
    static final String NONE = "1 b";

    static final String DEEDS_300 = "4 m65519 0a1:1 0b0:3 1a0:1 1b0:0 1b3:14 2a1:1 2a2:1 2b1:2 3a2:0 3b3:11";
    static final String DEEDS_301 = "3 p65128 0a1:1 0b2:3 1a0:1 1a1:1 1b1:5 2a0:2 2b1:8";
    static final String CLASSES_100 = "4 b41050 0a3:4 0b3:3 1a2:1 1b0:0 1b1:2 2a1:8 3b2:4";
    static final String CLASSES_101 = "4 r6464 0b2:4 1b0:4 2a2:2 2b3:10 3a2:0 3a3:1 3b1:4";
    /** More machines whose languages have just 100 classes, one for each way to accept. */
    static final String[] MORE_100 = {
        "3 b38861 0a0:0 0a1:5 1a2:0 1b2:2 2a0:0 2b1:0",
        "3 c2611 0a1:0 0b2:11 1b1:3 1b2:0 2a0:2 2b0:2",
        "3 p44710 0a0:0 0a2:6 0b1:15 1a2:5 1b2:2 2a0:1 2a1:1",
        "3 r43858 0a0:11 0a2:9 0b2:1 1a0:2 1b0:0 2a1:1",
        "3 s44889 0a2:0 0b2:6 1a0:12 1a1:0 2a1:0 2b0:7",
        "3 m27790 0b0:12 0b2:2 1a0:11 1b2:5 2a1:0 2b1:0"
    };
    /** More machines whose languages would have 101 classes, one for each way to accept. */
    static final String[] MORE_101 = {
        "4 b32008 0a3:2 0b3:8 1a2:2 1a3:1 2a0:2 2a1:7 2b2:13 3a2:4",
        "3 c15064 0a2:0 0b2:1 1a1:1 1b0:0 1b2:1 2b1:0",
        "4 p19669 0b1:9 1a2:0 1a3:0 1b2:7 2a0:1 2b3:1 3a0:1 3a2:6 3b3:14",
        "3 r12952 0a1:1 0b1:10 1a0:2 1b2:0 2a2:12 2b1:2",
        "4 s15633 0b3:1 1b3:1 2a1:1 2b2:15 2b3:1 3a3:0 3b0:0 3b2:1",
        "3 m29998 0a1:0 0b0:2 1a2:1 1b0:1 1b2:1 2a0:12 2b2:2"
    };
    static final String PAIRS_600_ONE = "3 m54543 0a1:0 0b1:3 1b2:1 2a2:2 2b0:3";
    static final String PAIRS_600_TWO = "4 s14987 0a3:4 0b2:0 1a1:0 1b3:2 2b0:3 2b3:4 3a0:3 3b3:2";
    static final String PAIRS_601_ONE = "4 c23480 0a0:4 0b1:3 1b3:2 2a0:3 3b0:2 3b1:2";
    static final String PAIRS_601_TWO = "4 c25604 0a1:11 0b3:2 1a2:0 1b3:1 2b0:8 3a0:0 3b2:8";
    /** Words of the one begin with a, of the other with b: 600 pairs, but both have no word in common. */
    static final String APART_600_ONE = "4 m35503 0a3:0 1a3:1 2a1:0 2b2:0 3a2:8 3b1:8";
    static final String APART_600_TWO = "4 c11061 0b1:0 1a1:1 1b3:8 2a3:0 2b1:0 3a2:2 3b3:0";
    static final String APART_601_ONE = "4 s47328 0a2:0 1a1:0 1b3:2 2b1:4 3a3:0 3b2:0";
    static final String APART_601_TWO = "4 m18346 0b2:0 1a2:2 1b3:1 2a1:2 2b2:0 3a1:0 3b1:0";
    static final String JOIN_100_ONE = "3 s59531 0a1:0 0a2:0 0b2:0 1a2:3 1b0:11 1b1:2 2b1:0";
    static final String JOIN_100_TWO = "4 m30510 0a0:2 0b2:1 1a0:2 1b0:2 2a3:2 2b2:4 3a3:3 3b0:0";
    static final String JOIN_101_ONE = "3 c53344 0a1:0 0b1:0 0b2:0 1a2:0 1b0:8 2a1:9 2a2:1 2b1:0 2b2:1";
    static final String JOIN_101_TWO = "4 m43450 0a3:4 0b3:2 1b3:6 2a0:5 2b0:8 3a3:8 3b1:13";

    /** The classes of this are those of a, of b and of two a: "b, but for one a". */
    static final String ONE_A = "2 c 0b0:1 0a1:0 1b1:0";
    static final String THIRTY = "!!!!!!!!!!!!!!!!!!!!!!!!!!!!!a";

    /** A house with some of everything: 0 often a, 1 last a, 2 some a, 3 no a, 4 first a, 5 each second a. */
    static void some(Wagnerhall x) {
        lang(x, OFTEN_A);
        lang(x, LAST_A);
        lang(x, SOME_A);
        lang(x, NO_A);
        lang(x, FIRST_A);
        lang(x, EVEN_A);
        word(x, "ab", "ba");
        text(x, "Fa");
        x.position(0, 2);
        x.position(1, 1);
        x.way(0, 1);
        x.way(1, 0);
    }

    /** Six machines and twelve languages, each of the first six and its opposite. */
    static void full(Wagnerhall x) {
        some(x);
        fill(x);
    }

    static void fill(Wagnerhall x) {
        for (int i = x.languages(); i < 12; i++) x.turn(Math.max(0, i - 6), 'n');
    }
}
