/** Each promise of the document on ordinary calls; what it says of boundaries and exceptions is asked by BoundariesTest. */
public final class PromisesTest extends HelperHouse {
    static final int[] perPromise = new int[46];
    static int open = 0;
    static int askedAtOpen = 0;

    static void promise(int number) {
        perPromise[open] += asked - askedAtOpen;
        open = number;
        askedAtOpen = asked;
        place = "promise " + number;
    }

    public static void main(String[] args) {
        newHouse();
        rows();
        machines();
        ways();
        single();
        takes();
        deeds();
        language();
        turn();
        join();
        shift();
        drop();
        has();
        classesOf();
        compare();
        apart();
        kinds();
        chains();
        residuals();
        verdicts();
        many();
        text();
        formulas();
        agrees();
        positions();
        games();
        sums();
        promise(0);
        for (int i = 1; i < perPromise.length; i++) {
            if (perPromise[i] == 0) fail("promise " + i + " is not asked");
        }
        end();
    }

    static void newHouse() {
        promise(1);
        Wagnerhall x = new Wagnerhall();
        is("languages", x.languages(), 0);
        is("checksum", x.checksum(), 7L);
        is("won", x.won(), 0);
        is("isSound", x.isSound(), true);
        is("letterAt", answer(y -> y.letterAt(0, false), x), NSE);
        is("drop", answer(y -> y.drop(), x), ISE);
        is("takes", answer(y -> y.takes(0), x), IOOBE);
        is("has", answer(y -> y.has(0), x), IOOBE);
        is("wins", answer(y -> y.wins(0), x), IOOBE);
        is("wipe", x.wipe(), 0);
        is("erase", x.erase(), 0);
        is("machine", x.machine(1), 0);
        is("position", x.position(0, 0), 0);
        is("a second house is apart", new Wagnerhall().machine(1), 0);
    }

    static void rows() {
        promise(2);
        Wagnerhall x = new Wagnerhall();
        for (int i = 1; i <= 10; i++) is("type " + i, x.type(i % 3 == 0 ? 'b' : 'a', false), i);
        for (int i = 1; i <= 10; i++) is("type loop " + i, x.type(i % 2 == 0 ? 'b' : 'a', true), i);
        is("all letters", lasso(x), "aabaabaaba(ababababab)");
        is("one row is full, not the other", answer(y -> y.type('a', true), house(y -> word(y, "aaaaaaaaaa", ""))), 1);

        promise(3);
        is("wipe", house(y -> word(y, "aab", "ba")).wipe(), 5);
        x = house(y -> word(y, "aaaaaaaaaa", "bbbbbbbbbb"));
        is("wipe all", x.wipe(), 20);
        is("both are empty", lasso(x), "()");
        is("wipe again", x.wipe(), 0);
        is("wipe keeps the text", answer(y -> { y.sign('a'); y.wipe(); return y.erase(); }, x), 1);

        promise(4);
        x = house(y -> word(y, "aab", "ba"));
        is("way 0", x.letterAt(0, false), 'a');
        is("way 2", x.letterAt(2, false), 'b');
        is("loop 0", x.letterAt(0, true), 'b');
        is("loop 1", x.letterAt(1, true), 'a');
    }

    static void machines() {
        promise(5);
        Wagnerhall x = new Wagnerhall();
        for (int i = 0; i < 6; i++) is("machine " + i, x.machine(1 + i % 4), i);
        is("a state 3 of 4", x.edge(3, 3, 'a', 3, 0), 1);
        is("no state 1 of 1", answer(y -> y.edge(0, 1, 'a', 0, 0), x), IOOBE);
        is("a new machine is of the way b", house(y -> y.machine(2)).accept(0, 'c', 0), 'b');
        is("a new machine has no edges", answer(y -> y.cut(0, 0, 'a', 0), house(y -> y.machine(2))), NSE);

        promise(6);
        x = house(y -> y.machine(2));
        is("edge", x.edge(0, 0, 'a', 1, 5), 1);
        is("edge of b", x.edge(0, 0, 'b', 1, 15), 2);
        is("edge anew", x.edge(0, 0, 'a', 1, 0), 2);
        is("edge beside", x.edge(0, 0, 'a', 0, 0), 3);
        is("edge back", x.edge(0, 1, 'a', 0, 0), 4);
        is("marks anew", x.cut(0, 0, 'a', 1), 0);
        is("edges of another machine", answer(y -> { y.machine(1); return y.edge(1, 0, 'a', 0, 0); }, x), 1);
        Build two = y -> {
            y.machine(2);
            y.edge(0, 0, 'a', 1, 3);
        };

        promise(7);
        x = house(two);
        is("cut", x.cut(0, 0, 'a', 1), 3);
        is("cut again", answer(y -> y.cut(0, 0, 'a', 1), x), NSE);
        is("fewer edges", x.edge(0, 1, 'a', 1, 0), 1);
    }

    static void ways() {
        promise(8);
        String[] how = {"b", "c", "p", "r", "s", "m"};
        int[] sets = {0xAAAA, 0x5555, 0x00F2, 0x4F44, 0xDD0D, 0x1234};
        for (int i = 0; i < how.length; i++) {
            for (int set = 0; set < 16; set++) {
                Wagnerhall x = new Wagnerhall();
                x.machine(1);
                x.edge(0, 0, 'a', 0, set);
                x.accept(0, how[i].charAt(0), 0x1234);
                x.type('a', true);
                is(how[i] + " of the set " + set, x.takes(0), (sets[i] >> set & 1) == 1);
                is("the language of " + how[i] + " of the set " + set, x.isA(x.language(0), 'e'), (sets[i] >> set & 1) == 0);
            }
        }
        Wagnerhall x = house(y -> y.machine(1));
        is("b before", x.accept(0, 'm', 0), 'b');
        is("m before", x.accept(0, 'm', 65535), 'm');
        is("m before still", x.accept(0, 'r', -1), 'm');
        is("r before", x.accept(0, 's', 65536), 'r');
        is("s before", x.accept(0, 'p', Integer.MIN_VALUE), 's');
        is("p before", x.accept(0, 'c', Integer.MAX_VALUE), 'p');
        is("c before", x.accept(0, 'b', 0), 'c');
    }

    static void single() {
        promise(9);
        Wagnerhall x = house(y -> machine(y, "2 b 0a0:1 0b1:0 1a1:0 1b0:0"));
        is("just one", x.isDeterministic(0, true), true);
        is("at most one", x.isDeterministic(0, false), true);
        x.cut(0, 1, 'b', 0);
        is("one is missing", x.isDeterministic(0, true), false);
        is("one is missing, at most one", x.isDeterministic(0, false), true);
        x.edge(0, 0, 'a', 1, 0);
        is("two", x.isDeterministic(0, false), false);
        is("two and one is missing", x.isDeterministic(0, true), false);
        x.edge(0, 1, 'b', 0, 0);
        is("two and none is missing", x.isDeterministic(0, true), false);
        is("no edges", house(y -> y.machine(4)).isDeterministic(0, false), true);
        is("no edges, just one asked", house(y -> y.machine(1)).isDeterministic(0, true), false);
    }

    static boolean taken(String machine, String way, String loop) {
        Wagnerhall x = house(y -> machine(y, machine));
        word(x, way, loop);
        return x.takes(0);
    }

    static void takes() {
        promise(10);
        is("often a of (ab)", taken(OFTEN_A, "", "ab"), true);
        is("often a of a(b)", taken(OFTEN_A, "a", "b"), false);
        is("last a of bb(a)", taken(LAST_A, "bb", "a"), true);
        is("last a of (ab)", taken(LAST_A, "", "ab"), false);
        is("some a of bbb(b)", taken(SOME_A, "bbb", "b"), false);
        is("some a of bbba(b)", taken(SOME_A, "bbba", "b"), true);
        is("no edges", taken(NONE, "", "a"), false);
        is("a run that ends", taken("2 m65535 0a1:0", "", "a"), false);
        is("guessing the last b", taken("2 b 0a0:0 0b0:0 0a1:1 1a1:1", "abab", "a"), true);
        is("guessing in vain", taken("2 b 0a0:0 0b0:0 0a1:1 1a1:1", "", "ab"), false);
        is("marks of two rounds together", taken("2 m8 0a0:1 0a1:2 1b0:0 0b0:0", "", "ab"), true);
        is("two rounds of one loop", taken("2 b 0a1:0 1a0:1", "", "a"), true);
        is("marks on the way count not", taken("2 b 0a1:1 1a1:0", "", "a"), false);
        is("four states round", taken("4 m256 0a1:0 1a2:0 2a3:0 3a0:8", "aaa", "aaa"), true);
        is("four states round by one letter", taken("4 m256 0a1:0 1a2:0 2a3:0 3a0:8", "", "a"), true);
        is("four states round, all marks", taken("4 m32768 0a1:1 1a2:2 2a3:4 3a0:8", "", "a"), true);
        is("long rows", taken(OFTEN_A, "bbbbbbbbbb", "bbbbbbbbba"), true);
        is("more than 300 deeds", taken(DEEDS_301, "", "a"), taken(DEEDS_301, "aa", "aaaa"));
    }

    static void deeds() {
        promise(11);
        is("often a", house(y -> machine(y, OFTEN_A)).deeds(0), 2);
        is("no edges", house(y -> y.machine(3)).deeds(0), 1);
        is("each second a", house(y -> machine(y, EVEN_A)).deeds(0), 7);
        is("marks of no meaning count", house(y -> machine(y, "1 b 0a0:2 0b0:4")).deeds(0), 3);
        is("all sets of marks", house(y -> machine(y, "2 b 0a0:1 0b1:2 1a0:4 1b1:8")).deeds(0), answer(y -> {
            HelperModel m = new HelperModel();
            m.machine(2);
            m.edge(0, 0, 'a', 0, 1);
            m.edge(0, 0, 'b', 1, 2);
            m.edge(0, 1, 'a', 0, 4);
            m.edge(0, 1, 'b', 1, 8);
            return m.deeds(0);
        }, null));
        is("the way has no meaning", house(y -> machine(y, "1 m7 0a0:1 0b0:0")).deeds(0), 2);
    }

    static void language() {
        promise(12);
        Wagnerhall x = house(y -> machine(y, OFTEN_A));
        is("the first one", x.language(0), 0);
        is("the next one", x.language(0), 1);
        x.edge(0, 0, 'a', 0, 0);
        is("as it is now", x.language(0), 2);
        is("as it was then", x.isA(0, 'e'), false);
        is("without marks", x.isA(2, 'e'), true);
        is("no edges", house(y -> lang(y, NONE)).isA(0, 'e'), true);
        is("languages of nondeterministic machines", house(y -> {
            lang(y, "2 b 0a0:0 0b0:0 0a1:1 1a1:1");
            lang(y, LAST_A);
        }).isSame(0, 1), true);
        is("marks of runs, not of words", house(y -> {
            lang(y, "2 m8 0a0:1 0a1:2 1b0:0 0b0:0");
            lang(y, "2 m2 0a0:0 0b0:0 0a1:0 1b0:1 0a0:0");
        }).isSame(0, 1), true);

        promise(13);
        x = new Wagnerhall();
        is("none", x.languages(), 0);
        lang(x, OFTEN_A);
        is("one", x.languages(), 1);
        x.turn(0, 'n');
        x.shift(0, 'a');
        is("three", x.languages(), 3);
        x.drop();
        is("two", x.languages(), 2);
        is("twelve", house(HelperHouse::full).languages(), 12);
    }

    static boolean isMade(Build build, String machine) {
        Wagnerhall x = house(build);
        return x.isSame(x.languages() - 1, lang(x, machine));
    }

    static void turn() {
        promise(14);
        is("number", house(y -> lang(y, SOME_A)).turn(0, 'n'), 1);
        is("no a is not some a", isMade(y -> { lang(y, SOME_A); y.turn(0, 'n'); }, NO_A), true);
        is("finitely many a", isMade(y -> { lang(y, OFTEN_A); y.turn(0, 'n'); }, "1 c 0a0:1 0b0:0"), true);
        is("closure of often a", isMade(y -> { lang(y, OFTEN_A); y.turn(0, 'c'); }, ALL), true);
        is("closure of some a", isMade(y -> { lang(y, SOME_A); y.turn(0, 'c'); }, ALL), true);
        is("closure of no a", isMade(y -> { lang(y, NO_A); y.turn(0, 'c'); }, NO_A), true);
        is("closure of first a, then often a", isMade(y -> {
            lang(y, "2 b 0a1:0 1a1:1 1b1:0");
            y.turn(0, 'c');
        }, FIRST_A), true);
        is("closure of none", isMade(y -> { lang(y, NONE); y.turn(0, 'c'); }, NONE), true);
        is("liveness of no a", isMade(y -> { lang(y, NO_A); y.turn(0, 'l'); }, ALL), true);
        is("liveness of often a", isMade(y -> { lang(y, OFTEN_A); y.turn(0, 'l'); }, OFTEN_A), true);
        is("liveness of first a, then often a", isMade(y -> {
            lang(y, "2 b 0a1:0 1a1:1 1b1:0");
            y.turn(0, 'l');
        }, "3 b 0a1:0 0b2:0 1a1:1 1b1:0 2a2:1 2b2:1"), true);
        is("inner of often a", isMade(y -> { lang(y, OFTEN_A); y.turn(0, 'i'); }, NONE), true);
        is("inner of some a", isMade(y -> { lang(y, SOME_A); y.turn(0, 'i'); }, SOME_A), true);
        is("inner of no a", isMade(y -> { lang(y, NO_A); y.turn(0, 'i'); }, NONE), true);
        is("inner of first a or no a", isMade(y -> {
            lang(y, "3 m65535 0a1:0 1a1:0 1b1:0 0b2:0 2b2:0");
            y.turn(0, 'i');
        }, FIRST_A), true);
        is("inner of all", isMade(y -> { lang(y, ALL); y.turn(0, 'i'); }, ALL), true);
        is("the language itself is kept", house(y -> { lang(y, SOME_A); y.turn(0, 'n'); }).isA(0, 'o'), true);
    }

    static void join() {
        promise(15);
        is("number", house(HelperHouse::some).join(0, 1, '&'), 6);
        is("last a within often a", isMade(y -> { lang(y, OFTEN_A); lang(y, LAST_A); y.join(0, 1, '&'); }, LAST_A), true);
        is("either", isMade(y -> { lang(y, OFTEN_A); lang(y, LAST_A); y.join(0, 1, '|'); }, OFTEN_A), true);
        is("just one", isMade(y -> { lang(y, OFTEN_A); lang(y, LAST_A); y.join(0, 1, 'x'); }, "2 m8 0a0:1 0b0:2"), true);
        is("just one, turned", isMade(y -> { lang(y, OFTEN_A); lang(y, LAST_A); y.join(1, 0, 'x'); }, "2 m8 0a0:1 0b0:2"), true);
        is("itself, both", isMade(y -> { lang(y, EVEN_A); y.join(0, 0, '&'); }, EVEN_A), true);
        is("itself, just one", isMade(y -> { lang(y, EVEN_A); y.join(0, 0, 'x'); }, NONE), true);
        is("some a or no a", isMade(y -> { lang(y, SOME_A); lang(y, NO_A); y.join(0, 1, '|'); }, ALL), true);
        is("some a and no a", isMade(y -> { lang(y, SOME_A); lang(y, NO_A); y.join(0, 1, '&'); }, NONE), true);
    }

    static void shift() {
        promise(16);
        is("number", house(HelperHouse::some).shift(0, 'a'), 6);
        is("first a by a", isMade(y -> { lang(y, FIRST_A); y.shift(0, 'a'); }, ALL), true);
        is("first a by b", isMade(y -> { lang(y, FIRST_A); y.shift(0, 'b'); }, NONE), true);
        is("often a by b", isMade(y -> { lang(y, OFTEN_A); y.shift(0, 'b'); }, OFTEN_A), true);
        is("some a by a", isMade(y -> { lang(y, SOME_A); y.shift(0, 'a'); }, ALL), true);
        is("some a by b", isMade(y -> { lang(y, SOME_A); y.shift(0, 'b'); }, SOME_A), true);
        is("each second a by a", isMade(y -> { lang(y, EVEN_A); y.shift(0, 'a'); }, "2 m65535 0a1:0 0b1:0 1a0:0"), true);
        is("each second a by a and b", isMade(y -> { lang(y, EVEN_A); y.shift(y.shift(0, 'a'), 'b'); }, EVEN_A), true);
    }

    static void drop() {
        promise(17);
        Wagnerhall x = house(HelperHouse::some);
        is("drop", x.drop(), 5);
        is("the last one is gone", answer(y -> y.classes(5), x), IOOBE);
        is("the others stay", x.isA(4, 'o') && x.isA(4, 'c'), true);
        is("its number comes again", x.turn(0, 'n'), 5);
        is("what comes is new", x.isA(5, 'f'), true);
        x = house(y -> lang(y, OFTEN_A));
        is("drop the only one", x.drop(), 0);
        is("drop none", answer(y -> y.drop(), x), ISE);
    }

    static void has() {
        promise(18);
        Wagnerhall x = house(HelperHouse::some);
        String[][] lassos = {{"", "ab"}, {"a", "b"}, {"bb", "a"}, {"", "b"}, {"b", "ab"}};
        String[] due = {"101011", "001010", "111000", "000100", "101000"};
        for (int i = 0; i < lassos.length; i++) {
            word(x, lassos[i][0], lassos[i][1]);
            StringBuilder got = new StringBuilder();
            for (int l = 0; l < 6; l++) got.append(x.has(l) ? '1' : '0');
            is("languages of " + lassos[i][0] + "(" + lassos[i][1] + ")", got.toString(), due[i]);
        }
        word(x, "aaaaaaaaaa", "bbbbbbbbbb");
        is("long rows", x.has(0), false);
        is("long rows, some a", x.has(2), true);
    }

    static void classesOf() {
        promise(19);
        Wagnerhall x = house(HelperHouse::some);
        int[] classes = {2, 2, 2, 2, 2, 7};
        for (int l = 0; l < 6; l++) is("classes of " + l, x.classes(l), classes[l]);
        is("all", house(y -> lang(y, ALL)).classes(0), 1);
        is("none", house(y -> lang(y, NONE)).classes(0), 1);
        is("just (a)", house(y -> lang(y, "1 m65535 0a0:0")).classes(0), 2);
        is("a comes just once", house(y -> lang(y, "2 c 0b0:1 0a1:0 1b1:0")).classes(0), 3);
        is("the opposite", house(y -> { lang(y, EVEN_A); y.turn(0, 'n'); }).classes(1), x.classes(5));

        promise(20);
        Wagnerhall once = house(y -> lang(y, "2 c 0b0:1 0a1:0 1b1:0"));
        is("length of a", once.length(0, 0), 1);
        is("length of b", once.length(0, 1), 1);
        is("length of aa", once.length(0, 2), 2);

        promise(21);
        int[][] due = {{2, 0, 2}, {0, 1, 2}, {2, 2, 2}};
        for (int i = 0; i < 3; i++) {
            for (int k = 0; k < 3; k++) is("product " + i + " " + k, once.product(0, i, k), due[i][k]);
        }
        Wagnerhall first = house(y -> lang(y, FIRST_A));
        is("first a: a times b", first.product(0, 0, 1), 0);
        is("first a: b times a", first.product(0, 1, 0), 1);

        promise(22);
        word(once, "ba", "");
        is("class of ba", once.classOf(0), 0);
        word(once, "bb", "a");
        is("class of bb", once.classOf(0), 1);
        word(once, "bababbbbbb", "a");
        is("class of a long way", once.classOf(0), 2);

        promise(23);
        is("b and aa", once.idempotents(0), 2);
        is("often a", x.idempotents(0), 2);
        is("all", house(y -> lang(y, ALL)).idempotents(0), 1);
        is("even length of words", house(y -> lang(y, EVEN_A)).idempotents(0), answer(y -> {
            int n = 0;
            for (int i = 0; i < y.classes(0); i++) n += y.product(0, i, i) == i ? 1 : 0;
            return n;
        }, house(y -> lang(y, EVEN_A))));

        promise(24);
        for (int i = -1; i < 3; i++) {
            StringBuilder got = new StringBuilder();
            for (int t = 0; t < 3; t++) got.append(once.value(0, i, t) ? '1' : '0');
            is("values of " + i, got.toString(), i == 0 ? "010" : "000");
        }
        is("no word and the loop a", first.value(0, -1, 0), true);
        is("no word and the loop b", first.value(0, -1, 1), false);
        is("b and the loop a", first.value(0, 1, 0), false);
    }

    static void compare() {
        promise(25);
        Wagnerhall x = house(HelperHouse::some);
        for (int i = 0; i < 6; i++) {
            for (int k = 0; k < 6; k++) is("same " + i + " " + k, x.isSame(i, k), i == k);
        }
        x.turn(0, 'n');
        x.turn(6, 'n');
        is("turned twice", x.isSame(0, 7), true);
        is("turned once", x.isSame(0, 6), false);

        promise(26);
        x = house(HelperHouse::some);
        String[] due = {"101000", "111000", "001000", "000100", "001010", "001011"};
        for (int i = 0; i < 6; i++) {
            for (int k = 0; k < 6; k++) is("within " + i + " " + k, x.isWithin(i, k), due[i].charAt(k) == '1' || i == 5 && k == 0);
        }
        is("none within all others", house(y -> { lang(y, NONE); lang(y, NO_A); }).isWithin(0, 1), true);
    }

    static void apart() {
        promise(27);
        Wagnerhall x = house(HelperHouse::some);
        is("often a and last a", x.apart(0, 1), 2);
        is("its lasso", lasso(x), "(ab)");
        is("some a and often a", x.apart(2, 0), 2);
        is("its lasso", lasso(x), "a(b)");
        is("no a and often a", x.apart(3, 0), 1);
        is("its lasso", lasso(x), "(a)");
        is("first a and each second a", x.apart(4, 5), 2);
        is("its lasso", lasso(x), "a(b)");
        is("first a and some a", x.apart(4, 2), 2);
        is("its lasso", lasso(x), "(ba)");
        is("the text stays", x.erase(), 2);
        x = house(y -> { lang(y, ALL); lang(y, "4 m65535 0a0:0 0b1:0 1a0:0 1b2:0 2a0:0 2b3:0 3a0:0"); });
        is("four b", x.apart(0, 1), 1);
        is("its lasso", lasso(x), "(b)");
    }

    static void kinds() {
        promise(28);
        String[] machines = {OFTEN_A, LAST_A, SOME_A, NO_A, FIRST_A, EVEN_A, ALL, NONE};
        String[] due = {"dgakp", "dfakp", "odgfak", "cgfak", "ocgfa", "cgf", "uocdgfakp", "eocgfakp"};
        for (int i = 0; i < machines.length; i++) {
            int k = i;
            Wagnerhall x = house(y -> lang(y, machines[k]));
            for (char kind : "euocdgfakp".toCharArray()) {
                is(machines[i] + " is " + kind, x.isA(0, kind), due[i].indexOf(kind) >= 0);
            }
        }
        Wagnerhall x = house(y -> lang(y, "2 p 0a0:1 0b1:0 1a0:2 1b0:4"));
        is("neither g nor f", x.isA(0, 'g') || x.isA(0, 'f'), false);
        is("not each power stands", house(y -> lang(y, "2 b 0a1:0 1a0:1 0b0:0 1b1:0")).isA(0, 'p'), true);
        is("aa as one letter", house(y -> lang(y, "2 m65535 0a1:0 1a0:0 0b0:0")).isA(0, 'a'), false);
    }

    static void chains() {
        promise(29);
        String[] machines = {OFTEN_A, LAST_A, SOME_A, NO_A, FIRST_A, ALL, NONE, "1 m8 0a0:1 0b0:2", "1 p 0a0:2 0b0:4",
            "2 m65493 0a0:1 0b1:2 1a0:4 1b1:8"};
        int[] in = {1, 2, 1, 1, 1, 1, 0, 1};
        int[] out = {2, 1, 1, 1, 1, 0, 1, 2};
        for (int i = 0; i < in.length; i++) {
            int k = i;
            Wagnerhall x = house(y -> lang(y, machines[k]));
            is(machines[i] + " chain in", x.chain(0, true), in[i]);
            is(machines[i] + " chain out", x.chain(0, false), out[i]);
        }
        // Each sort of mark by its own pair of letters: the more marks, the longer the chain.
        Wagnerhall x = house(y -> lang(y, "2 p 0a0:1 0b1:0 1a0:2 1b0:4"));
        HelperModel model = new HelperModel();
        model.machine(2);
        model.accept(0, 'p', 0);
        model.edge(0, 0, 'a', 0, 1);
        model.edge(0, 0, 'b', 1, 0);
        model.edge(0, 1, 'a', 0, 2);
        model.edge(0, 1, 'b', 0, 4);
        model.language(0);
        is("three colours, in", x.chain(0, true), HelperModel.chain(model.lang(0), true));
        is("three colours, in, is 3", x.chain(0, true), 3);
        is("three colours, out", x.chain(0, false), HelperModel.chain(model.lang(0), false));
    }

    static void residuals() {
        promise(30);
        String[] machines = {OFTEN_A, LAST_A, SOME_A, NO_A, FIRST_A, EVEN_A, ALL, NONE, "2 c 0b0:1 0a1:0 1b1:0"};
        int[] due = {1, 1, 2, 2, 3, 3, 1, 1, 3};
        for (int i = 0; i < machines.length; i++) {
            int k = i;
            is(machines[i], house(y -> lang(y, machines[k])).residuals(0), due[i]);
        }
    }

    static String verdictsOf(Wagnerhall x, String way, String loop) {
        word(x, way, loop);
        StringBuilder s = new StringBuilder();
        for (int l = 0; l < x.languages(); l++) s.append(x.verdict(l));
        return s.toString();
    }

    static void verdicts() {
        promise(31);
        Wagnerhall x = house(HelperHouse::some);
        is("no way", verdictsOf(x, "", "b"), "??????");
        is("no way, no loop", verdictsOf(x, "", ""), "??????");
        is("a", verdictsOf(x, "a", "a"), "??+-+?");
        is("b", verdictsOf(x, "b", "a"), "????--");
        is("ba", verdictsOf(x, "ba", ""), "??+---");
        is("ababab", verdictsOf(x, "ababab", ""), "??+-+?");
        is("abb", verdictsOf(x, "abb", ""), "??+-+-");
        is("all and none", verdictsOf(house(y -> { lang(y, ALL); lang(y, NONE); }), "abab", ""), "+-");
        is("all and none, no way", verdictsOf(house(y -> { lang(y, ALL); lang(y, NONE); }), "", ""), "+-");
    }

    static void many() {
        promise(32);
        Wagnerhall x = house(y -> { some(y); y.join(2, 3, '|'); y.join(2, 3, '&'); });
        int all = 0;
        int often = 0;
        for (int k = 1; k <= 8; k++) {
            all += k << k;
            often += (k << k) - (1 << k) + 1;
            is("often a, " + k, x.many(0, k), often);
            is("some a, " + k, x.many(2, k), all - k * (k + 1) / 2);
            is("no a, " + k, x.many(3, k), k * (k + 1) / 2);
            is("first a, " + k, x.many(4, k), all / 2);
            is("all, " + k, x.many(6, k), all);
            is("none, " + k, x.many(7, k), 0);
        }
        is("all with 8", x.many(6, 8), 3586);
        is("the lasso stays", lasso(x), "ab(ba)");
    }

    static void text() {
        promise(33);
        Wagnerhall x = new Wagnerhall();
        String signs = "a!&|XFGU";
        for (int i = 0; i < 30; i++) is("sign " + i, x.sign(signs.charAt(i % 8)), i + 1);
        promise(34);
        is("erase 30", x.erase(), 30);
        is("erase again", x.erase(), 0);
        is("sign behind", x.sign('a'), 1);
        is("erase 1", x.erase(), 1);
        is("erase keeps the lasso", answer(y -> { y.erase(); return lasso(y); }, house(HelperHouse::some)), "ab(ba)");
    }

    static boolean holds(String signs, String way, String loop) {
        Wagnerhall x = new Wagnerhall();
        text(x, signs);
        word(x, way, loop);
        return x.holds();
    }

    static void formulas() {
        promise(35);
        String[] yes = {"a ab b", "a - a", "!a b a", "Xa ba b", "Xa - ba", "XXa - ab", "Fa bbb ab", "Fa bbb ba", "Ga - a", "Ga aaa a",
            "GFa - ab", "FGa bbb a", "FG!a aba b", "Ua!a aaab a", "U!aa bba b", "Uaa a b", "Uaa - ab", "&aXa aab b", "|aXa bab b",
            "&a|XaXXa - aba", "UXaa ba b", "U!a&aXa bbaa b", "G|aXa - ab", "!U!aa - b", "!FG!a - ab", "FXXXXXa bbbbbbb ba", "UGaGa - a",
            "U|aXaG!a abab b", "F&aXXa - aba"};
        String[] no = {"a b a", "a - b", "!a - a", "Xa ab b", "XXa ab b", "Fa bbb b", "Ga aaab a", "Ga - ab", "GFa aaa b",
            "FGa - ab", "Ua!a - a", "U!aa - b", "Uaa b a", "&aXa ab a", "|aXa bb a", "G|aXa - abb", "UXa!a - a", "!|a!a - a", "FXFXFXG!a - bba"};
        for (String t : yes) {
            String[] p = t.split(" ");
            is(t, holds(p[0], p[1].replace("-", ""), p[2]), true);
        }
        for (String t : no) {
            String[] p = t.split(" ");
            is(t, holds(p[0], p[1].replace("-", ""), p[2]), false);
        }
        is("30 signs", holds(THIRTY, "b", "b"), true);
        is("30 signs, 10 and 10 letters", holds("XXXXXXXXXXXXXXXXXXXXXXXXXXXXXa", "aaaaaaaaaa", "bbbbbbbbba"), true);
        is("19 steps", holds("XXXXXXXXXXXXXXXXXXXa", "bbbbbbbbbb", "bbbbbbbbba"), true);
        is("20 steps", holds("XXXXXXXXXXXXXXXXXXXXa", "aaaaaaaaaa", "bbbbbbbbba"), false);
        is("until round the loop", holds("U!aa", "b", "bbbbba"), true);
    }

    static void agrees() {
        promise(36);
        Wagnerhall x = house(HelperHouse::some);
        int all = 0;
        for (int k = 1; k <= 6; k++) {
            all += k << k;
            text(x, "GFa");
            is("often a " + k, x.agrees(0, k), all);
            text(x, "FGa");
            is("last a " + k, x.agrees(1, k), all);
            is("often a by last a " + k, x.agrees(0, k), all - x.many(0, k) + x.many(1, k));
            text(x, "!GFa");
            is("not often a " + k, x.agrees(0, k), 0);
            text(x, "Fa");
            is("some a " + k, x.agrees(2, k), all);
            text(x, "G!a");
            is("no a " + k, x.agrees(3, k), all);
            text(x, "a");
            is("first a " + k, x.agrees(4, k), all);
            is("some a by first a " + k, x.agrees(2, k), all - x.many(2, k) + x.many(4, k));
        }
        is("the lasso stays", lasso(x), "ab(ba)");
        is("the lasso has no meaning", house(y -> { some(y); y.wipe(); }).agrees(2, 4), 98);
    }

    static void positions() {
        promise(37);
        Wagnerhall x = new Wagnerhall();
        for (int i = 0; i < 10; i++) is("position " + i, x.position(i % 2, i % 6), i);
        is("a new position has no ways", answer(y -> y.move(2), house(y -> { some(y); y.position(1, 0); })), NSE);

        promise(38);
        is("a way", x.way(0, 1), true);
        is("the way back", x.way(1, 0), true);
        is("to the same", x.way(9, 9), true);
        is("away again", x.way(0, 1), false);
        is("and there again", x.way(0, 1), true);
        is("the same away", x.way(9, 9), false);
    }

    static void play(String text, String won, String moves) {
        Wagnerhall x = house(y -> game(y, text));
        int count = 0;
        for (int i = 0; i < won.length(); i++) {
            int k = i;
            promise(39);
            is(text + " wins " + i, x.wins(i), won.charAt(i) == '1');
            promise(40);
            Object due = moves.charAt(i) == '-' ? NSE : (Object) (moves.charAt(i) - '0');
            is(text + " move " + i, answer(y -> y.move(k), x), due);
            count += won.charAt(i) - '0';
        }
        promise(41);
        is(text + " won", x.won(), count);
        promise(45);
        is(text + " isSound", x.isSound(), true);
    }

    static void games() {
        play("00 10", "01", "--");
        play("02 13 0>0 1>1", "10", "01");
        play("03 12 0>0 1>1", "01", "--");
        for (int colour = 0; colour < 6; colour++) {
            play("0" + colour + " 0>0", colour % 2 == 0 ? "1" : "0", colour % 2 == 0 ? "0" : "-");
            play("1" + colour + " 0>0", colour % 2 == 0 ? "1" : "0", colour % 2 == 0 ? "-" : "0");
        }
        play("00 01 02 0>1 0>2 1>1 2>2", "101", "2-2");
        play("10 01 02 0>1 0>2 1>1 2>2", "001", "1-2");
        play("03 04 0>1 1>0", "11", "10");
        play("13 04 0>1 1>0 0>0", "00", "0-");
        play("13 14 0>1 1>0 1>1", "11", "--");
        play("05 14 0>1 1>0", "00", "-0");
        play("00 10 11 02 0>0 1>1 1>2 2>3 3>2 0>3 3>0", "1111", "0--0");
        play("02 02 02 0>2 0>1 1>1 2>2", "111", "112");
        play("01 10 0>1", "11", "1-");
        play("01 00 0>1", "00", "--");
        play("11 00 0>1 1>1", "11", "-1");
        play("01 13 02 14 05 0>1 1>2 2>3 3>0 3>4 4>4 1>0", "00000", "-0-0-");
        promise(39);
        Wagnerhall x = house(y -> game(y, "01 02 0>0 0>1 1>1"));
        is("it can leave", x.wins(0), true);
        x.way(0, 1);
        is("it can not leave", x.wins(0), false);
        x.way(1, 0);
        is("the other one need not go", x.wins(1), true);
        promise(41);
        is("none", new Wagnerhall().won(), 0);
    }

    static void sums() {
        promise(42);
        is("none", new Wagnerhall().checksum(), 7L);
        is("all", house(y -> lang(y, ALL)).checksum(), 208538L);
        is("no word", house(y -> lang(y, NONE)).checksum(), 208537L);
        is("often a", house(y -> lang(y, OFTEN_A)).checksum(), 200404090L);
        is("two", house(y -> { lang(y, ALL); lang(y, ALL); }).checksum(), 208538L * 29791L + 1L);
        is("the lasso, machines, positions and text count not", house(y -> {
            machine(y, EVEN_A);
            lang(y, ALL);
            word(y, "ab", "a");
            y.position(0, 0);
            y.sign('a');
        }).checksum(), 208538L);
        is("after drop", house(y -> { lang(y, ALL); y.turn(0, 'n'); y.drop(); }).checksum(), 208538L);
        Wagnerhall x = house(HelperHouse::full);
        long sum = 7;
        for (int l = 0; l < 12; l++) {
            int n = x.classes(l);
            int in = 0;
            x.wipe();
            x.type('a', false);
            int a = x.classOf(l);
            x.wipe();
            x.type('b', false);
            int b = x.classOf(l);
            for (int i = 0; i < n; i++) {
                sum = sum * 31 + x.product(l, i, a);
                sum = sum * 31 + x.product(l, i, b);
                for (int t = 0; t < n; t++) in += x.value(l, i, t) ? 1 : 0;
            }
            sum = sum * 31 + in;
        }
        is("twelve languages", x.checksum(), sum);

        promise(43);
        is("all", house(y -> lang(y, ALL)).share(0), 1.0f);
        is("no word", house(y -> lang(y, NONE)).share(0), 0.0f);
        is("often a", house(y -> lang(y, OFTEN_A)).share(0), 201.0f / 258.0f);
        is("first a", house(y -> lang(y, FIRST_A)).share(0), 0.5f);
        is("no a", house(y -> lang(y, NO_A)).share(0), 15.0f / 258.0f);

        promise(44);
        is("one", house(y -> lang(y, OFTEN_A)).meanClasses(), 2.0);
        is("two", house(y -> { lang(y, OFTEN_A); lang(y, ALL); }).meanClasses(), 1.5);
        is("three", house(y -> { lang(y, OFTEN_A); lang(y, ALL); lang(y, ALL); }).meanClasses(), 4.0 / 3.0);

        promise(45);
        is("some", house(HelperHouse::some).isSound(), true);
        is("full", house(HelperHouse::full).isSound(), true);
        is("100 classes", house(y -> lang(y, CLASSES_100)).isSound(), true);
        is("it changes nothing", kinds(house(y -> { full(y); y.isSound(); })), kinds(house(HelperHouse::full)));
    }
}
