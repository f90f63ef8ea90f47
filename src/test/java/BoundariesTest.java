import java.math.BigInteger;
import java.nio.charset.StandardCharsets;
import java.nio.file.Files;
import java.nio.file.Path;
import java.util.ArrayList;
import java.util.LinkedHashMap;
import java.util.List;
import java.util.Map;
import java.util.TreeSet;
import java.util.regex.Matcher;
import java.util.regex.Pattern;

/**
 * Each sentence of the document that names a boundary has a test of its own here, under its own words: the last
 * value that is allowed and the first that is not, on both sides; the empty and the full; of several exceptions the
 * one that is listed first; and that a refused call changes nothing. The document is read along: a sentence that it
 * does not have, and a 'Throws' row or a sentence of its terms that has no test here, is a fault.
 */
public final class BoundariesTest extends HelperHouse {
    interface ByNumber {
        Object of(Wagnerhall x, int number);
    }

    interface ByLetter {
        Object of(Wagnerhall x, char letter);
    }

    /** The sections of the document by their headings, each as one line without quotes for code. */
    static final Map<String, String> sections = new LinkedHashMap<>();
    static final TreeSet<String> named = new TreeSet<>();
    static String open = "";
    static int askedAtOpen = 0;
    static int wrongAtOpen = 0;
    static int sentencesFailed = 0;

    // Which sentence is tested

    static void read() throws Exception {
        String doc = Files.readString(Path.of("../shared/DOC.md"), StandardCharsets.UTF_8);
        for (String part : doc.split("\n## ")) {
            int end = part.indexOf('\n');
            String heading = end < 0 ? part : part.substring(0, end);
            sections.put(heading.replaceAll(":.*", ""), end < 0 ? "" : part.substring(end).replace("`", "").replaceAll("\\s+", " "));
        }
    }

    static void close() {
        if (!open.isEmpty() && asked == askedAtOpen) fail("nothing is asked");
        if (wrong > wrongAtOpen) sentencesFailed++;
        wrongAtOpen = wrong;
    }

    static void sentence(String section, String words) {
        close();
        place = section + ", '" + words + "'";
        open = section + "|" + words;
        askedAtOpen = asked;
        named.add(open);
        if (!sections.getOrDefault(section, "").contains(words)) fail("the document does not say this");
    }

    static void row(int promise, String words) {
        sentence("Promise " + promise, words);
    }

    static void terms(String words) {
        sentence("Terms", words);
    }

    /** Whether each 'Throws' row, and each sentence of the terms, was named by a test. */
    static void nothingMissing() {
        close();
        place = "the document";
        int rows = 0;
        for (Map.Entry<String, String> part : sections.entrySet()) {
            Matcher thrown = Pattern.compile("Throws (.*?)(?= Throws | *$)").matcher(part.getValue());
            while (part.getKey().startsWith("Promise") && thrown.find()) {
                rows++;
                is("a test of " + part.getKey() + ", " + thrown.group(1), named.contains(part.getKey() + "|" + thrown.group(1)), true);
            }
        }
        is("rows of exceptions", rows, 66);
        for (String said : sections.get("Terms").trim().split("(?<=\\.) ")) {
            boolean isHeading = !said.contains(" ");
            boolean isNamed = false;
            for (String name : named) isNamed |= name.startsWith("Terms|") && said.contains(name.substring("Terms|".length()));
            is("a test of: " + said, isNamed || isHeading, true);
        }
    }

    // Values out of range

    /** Numbers outside of a range: next to it on both sides, and those that a narrow type or a shift would bring back. */
    static Ask[] outside(int low, int high, ByNumber call) {
        int[] numbers = {low - 1, high + 1, low - 2, high + 2, low - 32, low + 32, low - 256, low + 256, low - 65536, low + 65536,
            Integer.MIN_VALUE, Integer.MIN_VALUE + 1 + low, Integer.MAX_VALUE};
        List<Ask> calls = new ArrayList<>();
        for (int number : numbers) {
            if (number < low || number > high) calls.add(x -> call.of(x, number));
        }
        return calls.toArray(new Ask[0]);
    }

    /** Signs that are none of the good ones: their neighbours, the other case, the same lower byte, and the ends. */
    static Ask[] noneOf(String good, ByLetter call) {
        TreeSet<Character> signs = new TreeSet<>();
        for (char c : good.toCharArray()) {
            for (int near : new int[] {c - 1, c + 1, c ^ 32, c + 256}) signs.add((char) near);
        }
        for (char c : "\0 a019AbBcfmnxX!&|-?\177\377\uffff".toCharArray()) signs.add(c);
        List<Ask> calls = new ArrayList<>();
        for (char c : signs) {
            if (good.indexOf(c) < 0) calls.add(x -> call.of(x, c));
        }
        return calls.toArray(new Ask[0]);
    }

    static Build then(Build build, Build more) {
        return x -> {
            build.on(x);
            more.on(x);
        };
    }

    public static void main(String[] args) throws Exception {
        read();
        aNewHouse();
        letters();
        type();
        wipeAndLetterAt();
        machines();
        edges();
        cuts();
        accepts();
        deterministic();
        takes();
        deeds();
        languages();
        turns();
        joins();
        joinLimits();
        shifts();
        drops();
        lassosInLanguages();
        likeWords();
        classes();
        idempotents();
        values();
        comparisons();
        apart();
        kinds();
        closures();
        chains();
        residualsAndVerdicts();
        many();
        signs();
        formulas();
        agrees();
        positions();
        waysOfGames();
        moves();
        sums();
        exceptions();
        calls512();
        nothingMissing();
        System.out.println(named.size() - sentencesFailed + " sentences of the document passed, " + sentencesFailed + " failed");
        end();
    }

    static void aNewHouse() {
        Build none = x -> { };
        row(1, "Creates a house without machines, languages and positions.");
        refuses("no machines", none, IOOBE, x -> x.edge(0, 0, 'a', 0, 0), x -> x.cut(0, 0, 'a', 0), x -> x.accept(0, 'b', 0),
            x -> x.isDeterministic(0, false), x -> x.takes(0), x -> x.deeds(0), x -> x.language(0));
        refuses("no languages", none, IOOBE, x -> x.turn(0, 'n'), x -> x.join(0, 0, '&'), x -> x.shift(0, 'a'), x -> x.has(0),
            x -> x.classes(0), x -> x.length(0, 0), x -> x.product(0, 0, 0), x -> x.classOf(0), x -> x.idempotents(0),
            x -> x.value(0, -1, 0), x -> x.isSame(0, 0), x -> x.isWithin(0, 0), x -> x.apart(0, 0), x -> x.isA(0, 'e'),
            x -> x.chain(0, true), x -> x.residuals(0), x -> x.verdict(0), x -> x.many(0, 1), x -> x.agrees(0, 1), x -> x.share(0));
        refuses("no positions", none, IOOBE, x -> x.way(0, 0), x -> x.wins(0), x -> x.move(0));
        refuses("none to drop", none, ISE, x -> x.drop());
        refuses("no letters", none, NSE, x -> x.letterAt(0, false), x -> x.letterAt(0, true));
        refuses("no text", none, UOE, x -> x.holds());
        refuses("no mean", none, AE, x -> x.meanClasses());
        is("languages", on(none, x -> x.languages()), 0);
        is("won", on(none, x -> x.won()), 0);
        is("checksum", on(none, x -> x.checksum()), 7L);
        is("isSound", on(none, x -> x.isSound()), true);
        is("wipe", on(none, x -> x.wipe()), 0);
        is("erase", on(none, x -> x.erase()), 0);
        is("the first machine", on(none, x -> x.machine(4)), 0);
        is("the first position", on(none, x -> x.position(1, 5)), 0);
        is("the first language", on(none, x -> lang(x, NONE)), 0);
        is("a house beside a full one", on(HelperHouse::full, x -> rowsAndNumbers(new Wagnerhall())), rowsAndNumbers(new Wagnerhall()));
    }

    static void letters() {
        terms("There are 2 letters, a and b.");
        for (char c : "ab".toCharArray()) {
            is("type " + c, on(HelperHouse::some, x -> x.type(c, true)), 3);
            is("edge by " + c, on(x -> x.machine(1), x -> x.edge(0, 0, c, 0, 0)), 1);
            is("cut by " + c, on(HelperHouse::some, x -> x.cut(0, 0, c, 0)), c == 'a' ? 1 : 0);
            is("shift by " + c, on(HelperHouse::some, x -> x.shift(0, c)), 6);
        }
        refuses("type", HelperHouse::some, IAE, noneOf("ab", (x, c) -> x.type(c, true)));
        refuses("edge", HelperHouse::some, IAE, noneOf("ab", (x, c) -> x.edge(0, 0, c, 0, 0)));
        refuses("cut", HelperHouse::some, IAE, noneOf("ab", (x, c) -> x.cut(0, 0, c, 0)));
        refuses("shift", HelperHouse::some, IAE, noneOf("ab", (x, c) -> x.shift(0, c)));

        terms("A lasso is a row of letters, perhaps none, the way, and a row of at least one letter, the loop; it stands for the endless word of the way and then the loop again and again.");
        Build noWay = then(HelperHouse::some, x -> word(x, "", "a"));
        is("takes without a way", on(noWay, x -> x.takes(0)), true);
        is("has without a way", on(noWay, x -> x.has(0)), true);
        is("holds without a way", on(noWay, x -> x.holds()), true);
        Build noLoop = then(HelperHouse::some, x -> word(x, "a", ""));
        refuses("a way without a loop", noLoop, UOE, x -> x.takes(0), x -> x.has(0), x -> x.holds());
        refuses("no lasso", then(HelperHouse::some, x -> x.wipe()), UOE, x -> x.takes(0), x -> x.has(0), x -> x.holds());
        for (String same : new String[] {"aab (b)", "aa (b)", "aabb (bb)"}) {
            String[] rows = same.replace("(", "").replace(")", "").split(" ");
            is("twice a, then b: " + same, on(x -> { lang(x, EVEN_A); word(x, rows[0], rows[1]); }, x -> x.has(0)), false);
        }
        for (String same : new String[] {"- ab", "a ba", "ab ab", "- abab", "aba baba"}) {
            String[] rows = same.replace("-", "").split(" ");
            is("a, b, a, b: " + same, on(x -> { lang(x, EVEN_A); word(x, rows[0], rows[1]); }, x -> x.has(0)), true);
        }
    }

    static Build rows(String way, String loop) {
        return x -> word(x, way, loop);
    }

    static final String TEN_A = "aaaaaaaaaa";
    static final String TEN_B = "bbbbbbbbbb";

    static void type() {
        terms("At most 10 letters are typed for the way, at most 10 for the loop.");
        for (boolean isLoop : new boolean[] {false, true}) {
            Wagnerhall x = new Wagnerhall();
            for (int i = 1; i <= 10; i++) is("letter " + i + (isLoop ? " of the loop" : " of the way"), x.type(i % 3 == 0 ? 'b' : 'a', isLoop), i);
            is("the 11th", answer(y -> y.type('a', isLoop), x), ISE);
            is("the row", lasso(x), isLoop ? "(aabaabaaba)" : "aabaabaaba()");
            is("the other row is empty", x.type('b', !isLoop), 1);
            is("after wipe there is room", answer(y -> { y.wipe(); return y.type('b', isLoop); }, x), 1);
        }
        row(2, "IllegalArgumentException if there is no such letter");
        refuses("the way", HelperHouse::some, IAE, noneOf("ab", (x, c) -> x.type(c, false)));
        refuses("the loop", HelperHouse::some, IAE, noneOf("ab", (x, c) -> x.type(c, true)));
        row(2, "IllegalStateException if it has 10");
        is("the way has 9", on(rows("aaaaaaaaa", TEN_B), x -> x.type('b', false)), 10);
        is("the loop has 9", on(rows(TEN_A, "bbbbbbbbb"), x -> x.type('a', true)), 10);
        refuses("the way has 10", rows(TEN_A, ""), ISE, x -> x.type('a', false), x -> x.type('b', false));
        refuses("the loop has 10", rows("", TEN_B), ISE, x -> x.type('a', true), x -> x.type('b', true));
        refuses("both have 10", rows(TEN_A, TEN_B), ISE, x -> x.type('a', false), x -> x.type('b', true));
    }

    static void wipeAndLetterAt() {
        row(3, "Returns how many letters both had.");
        is("none", on(rows("", ""), x -> x.wipe()), 0);
        is("a way alone", on(rows("b", ""), x -> x.wipe()), 1);
        is("a loop alone", on(rows("", "ab"), x -> x.wipe()), 2);
        is("all that can be", on(rows(TEN_A, TEN_B), x -> x.wipe()), 20);
        is("twice", on(rows(TEN_A, TEN_B), x -> { x.wipe(); return x.wipe(); }), 0);
        is("both are empty", on(rows("ab", "ba"), x -> { x.wipe(); return lasso(x); }), "()");
        is("the text is kept", on(HelperHouse::some, x -> { x.wipe(); return x.erase(); }), 2);

        row(4, "NoSuchElementException if there is none");
        is("first of the way", on(rows("abb", "ba"), x -> x.letterAt(0, false)), 'a');
        is("last of the way", on(rows("abb", "ba"), x -> x.letterAt(2, false)), 'b');
        is("first of the loop", on(rows("abb", "ba"), x -> x.letterAt(0, true)), 'b');
        is("last of the loop", on(rows("abb", "ba"), x -> x.letterAt(1, true)), 'a');
        is("last of a full way", on(rows("aaaaaaaaab", TEN_A), x -> x.letterAt(9, false)), 'b');
        is("last of a full loop", on(rows(TEN_A, "aaaaaaaaab"), x -> x.letterAt(9, true)), 'b');
        is("first of a full loop", on(rows(TEN_A, "baaaaaaaaa"), x -> x.letterAt(0, true)), 'b');
        refuses("the way has 3", rows("abb", TEN_A), NSE, outside(0, 2, (x, i) -> x.letterAt(i, false)));
        refuses("the loop has 2", rows(TEN_A, "ba"), NSE, outside(0, 1, (x, i) -> x.letterAt(i, true)));
        refuses("both have 10, the way", rows(TEN_A, TEN_B), NSE, outside(0, 9, (x, i) -> x.letterAt(i, false)));
        refuses("both have 10, the loop", rows(TEN_A, TEN_B), NSE, outside(0, 9, (x, i) -> x.letterAt(i, true)));
        refuses("the way is empty", rows("", "a"), NSE, x -> x.letterAt(0, false), x -> x.letterAt(-1, false));
        refuses("the loop is empty", rows("a", ""), NSE, x -> x.letterAt(0, true), x -> x.letterAt(-1, true));
    }

    /** Six machines with 1, 2, 3, 4, 1 and 2 states. */
    static void six(Wagnerhall x) {
        for (int i = 0; i < 6; i++) {
            x.machine(1 + i % 4);
            x.edge(i, 0, 'a', i % 4, i);
            x.accept(i, "bcprsm".charAt(i), 5);
        }
    }

    static void machines() {
        terms("At most 6 machines are numbered from 0, each with 1 to 4 states, numbered from 0; a run begins in the state 0.");
        Wagnerhall x = new Wagnerhall();
        for (int i = 0; i < 6; i++) is("machine " + i, x.machine(i == 0 ? 1 : i == 1 ? 4 : 2), i);
        is("the 7th", answer(y -> y.machine(2), x), ISE);
        is("the last state of 4", x.edge(1, 3, 'a', 3, 0), 1);
        is("the only state of 1", x.edge(0, 0, 'a', 0, 0), 1);
        is("the last state of 2 of the last machine", x.edge(5, 1, 'b', 0, 0), 1);
        is("a run begins in 0", on(y -> { machine(y, "2 b 1a1:1"); word(y, "", "a"); }, y -> y.takes(0)), false);
        is("a run begins in 0 and goes to 1", on(y -> { machine(y, "2 b 0a1:0 1a1:1"); word(y, "", "a"); }, y -> y.takes(0)), true);
        row(5, "IllegalArgumentException if the number is out of range");
        is("1 state", on(y -> machine(y, NONE), y -> y.machine(1)), 1);
        is("4 states", on(y -> machine(y, NONE), y -> y.machine(4)), 1);
        refuses("other numbers", HelperHouse::some, IAE, outside(1, 4, (y, i) -> y.machine(i)));
        refuses("other numbers in a new house", y -> { }, IAE, outside(1, 4, (y, i) -> y.machine(i)));
        row(5, "IllegalStateException if there are 6");
        is("there are 5", on(y -> { for (int i = 0; i < 5; i++) y.machine(1); }, y -> y.machine(1)), 5);
        refuses("there are 6", BoundariesTest::six, ISE, y -> y.machine(1), y -> y.machine(4));
        row(5, "Adds a machine without edges.");
        is("no edges", on(y -> y.machine(4), y -> cutAll(y, 0)), cutAllOfNone());
    }

    static String cutAllOfNone() {
        StringBuilder s = new StringBuilder();
        for (int i = 0; i < 32; i++) s.append(NSE);
        return s.toString();
    }

    static void twoEdges(Wagnerhall x) {
        machine(x, "2 c 0a1:3 1b0:0");
        machine(x, "4 b 3b3:15");
    }

    static void edges() {
        terms("There may be an edge for each state, letter and state, with a set of marks, of 4, numbered from 0, as bits.");
        Wagnerhall x = new Wagnerhall();
        x.machine(4);
        int count = 0;
        for (int i = 0; i < 32; i++) {
            count++;
            is("edge " + i, x.edge(0, i / 8, i % 2 == 0 ? 'a' : 'b', i / 2 % 4, i % 16), count);
        }
        for (int i = 0; i < 32; i++) is("marks of " + i, x.cut(0, i / 8, i % 2 == 0 ? 'a' : 'b', i / 2 % 4), i % 16);
        is("all are away", x.edge(0, 0, 'a', 0, 0), 1);
        row(6, "Tells an edge, or its marks anew.");
        is("the same edge", on(BoundariesTest::twoEdges, y -> y.edge(0, 0, 'a', 1, 3)), 2);
        is("its marks anew", on(BoundariesTest::twoEdges, y -> { y.edge(0, 0, 'a', 1, 4); return y.cut(0, 0, 'a', 1); }), 4);
        is("no marks anew", on(BoundariesTest::twoEdges, y -> y.edge(0, 0, 'a', 1, 0) * 100 + y.cut(0, 0, 'a', 1)), 200);
        is("another edge", on(BoundariesTest::twoEdges, y -> y.edge(0, 0, 'a', 0, 3)), 3);
        row(6, "marks: the marks as bits, 0 to 15");
        for (int marks = 0; marks <= 15; marks++) {
            int set = marks;
            is("marks " + set, on(BoundariesTest::twoEdges, y -> { y.edge(1, 0, 'b', 3, set); return y.cut(1, 0, 'b', 3); }), set);
        }
        row(6, "IndexOutOfBoundsException if there is no such machine or state");
        refuses("machine of 2", BoundariesTest::twoEdges, IOOBE, outside(0, 1, (y, i) -> y.edge(i, 0, 'a', 0, 0)));
        refuses("machine of 6", BoundariesTest::six, IOOBE, outside(0, 5, (y, i) -> y.edge(i, 0, 'a', 0, 0)));
        refuses("from a state of 2", BoundariesTest::twoEdges, IOOBE, outside(0, 1, (y, i) -> y.edge(0, i, 'a', 0, 0)));
        refuses("to a state of 2", BoundariesTest::twoEdges, IOOBE, outside(0, 1, (y, i) -> y.edge(0, 0, 'a', i, 0)));
        refuses("from a state of 4", BoundariesTest::twoEdges, IOOBE, outside(0, 3, (y, i) -> y.edge(1, i, 'a', 0, 0)));
        refuses("to a state of 4", BoundariesTest::twoEdges, IOOBE, outside(0, 3, (y, i) -> y.edge(1, 0, 'a', i, 0)));
        refuses("from a state of 1", BoundariesTest::six, IOOBE, outside(0, 0, (y, i) -> y.edge(0, i, 'a', 0, 0)));
        is("the last machine of 6, its last state", on(BoundariesTest::six, y -> y.edge(5, 1, 'b', 1, 0)), 2);
        row(6, "IllegalArgumentException if there is no such letter, or the marks are out of range");
        refuses("letters", BoundariesTest::twoEdges, IAE, noneOf("ab", (y, c) -> y.edge(0, 0, c, 1, 0)));
        refuses("marks of an edge", BoundariesTest::twoEdges, IAE, outside(0, 15, (y, i) -> y.edge(0, 0, 'a', 1, i)));
        refuses("marks of none", BoundariesTest::twoEdges, IAE, outside(0, 15, (y, i) -> y.edge(1, 2, 'b', 1, i)));
        refuses("neither letter nor marks", BoundariesTest::twoEdges, IAE, y -> y.edge(0, 0, 'c', 1, 16));
    }

    static void cuts() {
        row(7, "Returns its marks.");
        is("no marks", on(BoundariesTest::twoEdges, y -> y.cut(0, 1, 'b', 0)), 0);
        is("all marks", on(BoundariesTest::twoEdges, y -> y.cut(1, 3, 'b', 3)), 15);
        is("one edge less", on(BoundariesTest::twoEdges, y -> { y.cut(0, 1, 'b', 0); return y.edge(0, 1, 'b', 1, 0); }), 2);
        row(7, "IndexOutOfBoundsException if there is no such machine or state");
        refuses("machine", BoundariesTest::twoEdges, IOOBE, outside(0, 1, (y, i) -> y.cut(i, 0, 'a', 1)));
        refuses("from", BoundariesTest::twoEdges, IOOBE, outside(0, 1, (y, i) -> y.cut(0, i, 'a', 1)));
        refuses("to", BoundariesTest::twoEdges, IOOBE, outside(0, 1, (y, i) -> y.cut(0, 0, 'a', i)));
        refuses("from of 4", BoundariesTest::twoEdges, IOOBE, outside(0, 3, (y, i) -> y.cut(1, i, 'b', 3)));
        refuses("to of 4", BoundariesTest::twoEdges, IOOBE, outside(0, 3, (y, i) -> y.cut(1, 3, 'b', i)));
        row(7, "IllegalArgumentException if there is no such letter");
        refuses("where an edge is", BoundariesTest::twoEdges, IAE, noneOf("ab", (y, c) -> y.cut(0, 0, c, 1)));
        row(7, "NoSuchElementException if there is no such edge");
        refuses("other edges are", BoundariesTest::twoEdges, NSE, y -> y.cut(0, 0, 'b', 1), y -> y.cut(0, 1, 'a', 0), y -> y.cut(0, 0, 'a', 0),
            y -> y.cut(0, 1, 'a', 1), y -> y.cut(1, 0, 'a', 0), y -> y.cut(1, 3, 'a', 3));
        refuses("it was cut", then(BoundariesTest::twoEdges, y -> y.cut(0, 1, 'b', 0)), NSE, y -> y.cut(0, 1, 'b', 0));
        is("told again it is there", on(BoundariesTest::twoEdges, y -> { y.cut(0, 1, 'b', 0); y.edge(0, 1, 'b', 0, 9); return y.cut(0, 1, 'b', 0); }), 9);
    }

    /** Whether a machine of this way takes a loop with just these marks. */
    static Object accepts(String how, int marks) {
        return on(x -> { machine(x, "1 " + how + " 0a0:" + marks); word(x, "", "a"); }, x -> x.takes(0));
    }

    static void accepts() {
        terms("'b' if 0 is in it; 'c' if 0 is not in it; 'p' if its greatest mark is even, an empty set not; 'r' if 1 is in it and 0 not, or 3 is in it and 2 not; "
            + "'s' if 1 is in it or 0 not, and 3 is in it or 2 not; 'm' if the bit of the number that was told, 0 to 65535, at the place of the set, as a number of bits, is 1.");
        String[] ways = {"b", "c", "p", "r", "s", "m0", "m65535", "m1", "m32768", "m65534", "m32767"};
        String empty = "01001011001";
        String whole = "10001010110";
        for (int i = 0; i < ways.length; i++) {
            is("the empty set by " + ways[i], accepts(ways[i], 0), empty.charAt(i) == '1');
            is("the whole set by " + ways[i], accepts(ways[i], 15), whole.charAt(i) == '1');
        }
        int[] sets = {0xAAAA, 0x5555, 0x00F2, 0x4F44, 0xDD0D};
        for (int i = 0; i < 5; i++) {
            for (int set = 0; set < 16; set++) is("the set " + set + " by " + ways[i], accepts(ways[i], set), (sets[i] >> set & 1) == 1);
        }
        for (int bit = 0; bit < 16; bit++) {
            for (int set = 0; set < 16; set++) is("the set " + set + " by the bit " + bit, accepts("m" + (1 << bit), set), set == bit);
        }
        terms("At first it is 'b'.");
        is("a new machine", on(y -> y.machine(1), y -> y.accept(0, 'm', 0)), 'b');
        is("each new machine", on(BoundariesTest::five, y -> { y.machine(2); return y.accept(5, 's', 0); }), 'b');
        row(8, "table: the number, of no meaning for other ways than m");
        for (int table : new int[] {0, 65535, -1, 65536, Integer.MIN_VALUE, Integer.MAX_VALUE}) {
            for (char how : "bcprs".toCharArray()) is(how + " with " + table, on(BoundariesTest::six, y -> y.accept(2, how, table)), 'p');
        }
        row(8, "Returns the way before.");
        is("the way before", on(BoundariesTest::six, y -> "" + y.accept(4, 'm', 65535) + y.accept(4, 'm', 0) + y.accept(4, 'b', -1) + y.accept(4, 'b', 0)), "smmb");
        row(8, "IndexOutOfBoundsException if there is no such machine");
        refuses("machine of 6", BoundariesTest::six, IOOBE, outside(0, 5, (y, i) -> y.accept(i, 'c', 0)));
        refuses("machine of 2", BoundariesTest::twoEdges, IOOBE, outside(0, 1, (y, i) -> y.accept(i, 'm', 7)));
        row(8, "IllegalArgumentException if there is no such way, or the number that is meant is out of range");
        is("m of 0", on(BoundariesTest::six, y -> y.accept(5, 'm', 0)), 'm');
        is("m of 65535", on(BoundariesTest::six, y -> y.accept(5, 'm', 65535)), 'm');
        refuses("other numbers", BoundariesTest::six, IAE, outside(0, 65535, (y, i) -> y.accept(5, 'm', i)));
        refuses("other ways", BoundariesTest::six, IAE, noneOf("bcprsm", (y, c) -> y.accept(5, c, 0)));
        refuses("neither way nor number", BoundariesTest::six, IAE, y -> y.accept(0, 'x', -1));
    }

    static void five(Wagnerhall x) {
        for (int i = 0; i < 5; i++) x.accept(x.machine(1), 'm', 9);
    }

    static void deterministic() {
        row(9, "Returns whether a machine has at most one edge for each state and letter, or just one.");
        Build whole = x -> machine(x, "2 b 0a1:0 0b0:0 1a1:5 1b0:0");
        is("each just one", on(whole, x -> x.isDeterministic(0, true)), true);
        is("each at most one", on(whole, x -> x.isDeterministic(0, false)), true);
        for (String edge : new String[] {"0a1", "0b0", "1a1", "1b0"}) {
            Build less = then(whole, x -> x.cut(0, edge.charAt(0) - '0', edge.charAt(1), edge.charAt(2) - '0'));
            is("without " + edge + ", just one", on(less, x -> x.isDeterministic(0, true)), false);
            is("without " + edge + ", at most one", on(less, x -> x.isDeterministic(0, false)), true);
            Build more = then(whole, x -> x.edge(0, edge.charAt(0) - '0', edge.charAt(1), 1 - (edge.charAt(2) - '0'), 0));
            is("one beside " + edge + ", just one", on(more, x -> x.isDeterministic(0, true)), false);
            is("one beside " + edge + ", at most one", on(more, x -> x.isDeterministic(0, false)), false);
        }
        is("no edges, at most one", on(x -> x.machine(4), x -> x.isDeterministic(0, false)), true);
        is("no edges, just one", on(x -> x.machine(1), x -> x.isDeterministic(0, true)), false);
        is("a state that is not reached", on(x -> machine(x, "4 b 0a0:0 0b0:0 3a0:0 3a3:0"), x -> x.isDeterministic(0, false)), false);
        row(9, "IndexOutOfBoundsException if there is no such machine");
        refuses("whole", BoundariesTest::six, IOOBE, outside(0, 5, (x, i) -> x.isDeterministic(i, true)));
        refuses("not whole", BoundariesTest::twoEdges, IOOBE, outside(0, 1, (x, i) -> x.isDeterministic(i, false)));
    }

    static void takes() {
        terms("A machine takes an endless word if some run on it is accepted.");
        is("no edges", on(x -> { x.machine(4); word(x, "", "a"); }, x -> x.takes(0)), false);
        is("no edges, the empty set accepted", on(x -> { machine(x, "1 c"); word(x, "", "a"); }, x -> x.takes(0)), false);
        is("runs that end", on(x -> { machine(x, "2 m65535 0a1:0 0b0:0"); word(x, "", "a"); }, x -> x.takes(0)), false);
        is("one run of many", on(x -> { machine(x, "2 b 0a0:0 0a1:0 1a1:1"); word(x, "", "a"); }, x -> x.takes(0)), true);
        terms("A run on an endless word goes by an edge for each letter; it has the set of those marks that come on it again and again without end.");
        is("marks on the way count not", on(x -> { machine(x, "2 b 0a1:1 1a1:0"); word(x, "a", "a"); }, x -> x.takes(0)), false);
        is("marks that come once in the loop count not", on(x -> { machine(x, "2 b 0a1:1 1a1:0"); word(x, "", "a"); }, x -> x.takes(0)), false);
        is("marks of two rounds are one set", on(x -> { machine(x, "2 m8 0a1:1 1a0:2"); word(x, "", "a"); }, x -> x.takes(0)), true);
        is("marks of one round are no set", on(x -> { machine(x, "2 m6 0a1:1 1a0:2"); word(x, "", "a"); }, x -> x.takes(0)), false);
        is("a run may go by both edges again and again", on(x -> { machine(x, "2 m8 0a0:1 0a1:2 1a0:0"); word(x, "", "a"); }, x -> x.takes(0)), true);
        is("and by one alone", on(x -> { machine(x, "2 m2 0a0:1 0a1:2 1a0:0"); word(x, "", "a"); }, x -> x.takes(0)), true);
        row(10, "IndexOutOfBoundsException if there is no such machine");
        is("the last machine of 6", on(then(BoundariesTest::six, rows("", "a")), x -> x.takes(5)), false);
        refuses("machine", then(BoundariesTest::six, rows("", "a")), IOOBE, outside(0, 5, (x, i) -> x.takes(i)));
        row(10, "UnsupportedOperationException if the loop is empty");
        is("a loop of one letter", on(then(x -> machine(x, ALL), rows("", "a")), x -> x.takes(0)), true);
        is("10 letters and 10", on(then(x -> lang(x, OFTEN_A), rows(TEN_B, "bbbbbbbbba")), x -> x.takes(0)), true);
        is("no letters and 10", on(then(x -> lang(x, OFTEN_A), rows("", TEN_B)), x -> x.takes(0)), false);
        refuses("a way alone", then(BoundariesTest::six, rows(TEN_A, "")), UOE, x -> x.takes(0), x -> x.takes(5));
        refuses("no row", BoundariesTest::six, UOE, x -> x.takes(0), x -> x.takes(5));
        is("more deeds than 300 are no matter", on(then(x -> machine(x, DEEDS_301), rows("", "a")), x -> x.takes(0)),
            answer(x -> modelTakes(DEEDS_301, "", "a"), null));
    }

    static Object modelTakes(String text, String way, String loop) {
        HelperModel model = modelOf(text);
        for (char c : way.toCharArray()) model.type(c, false);
        for (char c : loop.toCharArray()) model.type(c, true);
        return model.takes(0);
    }

    static HelperModel modelOf(String... texts) {
        HelperModel model = new HelperModel();
        for (String text : texts) {
            int[][] rows = told(text);
            int m = model.machine(rows[0][0]);
            model.accept(m, (char) rows[0][1], rows[0][2]);
            for (int i = 1; i < rows.length; i++) model.edge(m, rows[i][0], (char) rows[i][1], rows[i][2], rows[i][3]);
        }
        return model;
    }

    static void deeds() {
        terms("The deed of a word, not empty, in a machine tells for each two states, and each set of marks, whether some run from the one to the other by this word meets just these marks.");
        is("no run at all is one deed", on(x -> x.machine(4), x -> x.deeds(0)), 1);
        is("no word is no deed", on(x -> machine(x, "2 b 0a1:0 0b1:0 1a0:0 1b0:0"), x -> x.deeds(0)), 2);
        is("no word is no deed of its own", on(x -> machine(x, "1 b 0a0:0 0b0:0"), x -> x.deeds(0)), 1);
        is("marks tell deeds apart", on(x -> machine(x, "1 b 0a0:0 0b0:15"), x -> x.deeds(0)), 2);
        is("all sets of marks but the empty", on(x -> machine(x, "2 b 0a0:1 0b1:2 1a0:4 1b1:8"), x -> x.deeds(0)),
            answer(x -> modelOf("2 b 0a0:1 0b1:2 1a0:4 1b1:8").deeds(0), null));
        is("how it accepts is no matter", on(x -> machine(x, "1 m7 0a0:0 0b0:15"), x -> x.deeds(0)), 2);
        row(11, "IndexOutOfBoundsException if there is no such machine");
        is("the last of 6", on(BoundariesTest::six, x -> x.deeds(5)), 2);
        refuses("of 6", BoundariesTest::six, IOOBE, outside(0, 5, (x, i) -> x.deeds(i)));
        refuses("of 1", x -> machine(x, OFTEN_A), IOOBE, outside(0, 0, (x, i) -> x.deeds(i)));
        row(11, "UnsupportedOperationException if there are more than 300");
        is("300", on(x -> machine(x, DEEDS_300), x -> x.deeds(0)), 300);
        refuses("301", x -> machine(x, DEEDS_301), UOE, x -> x.deeds(0));
        is("301 made fewer", on(x -> machine(x, DEEDS_301), x -> {
            answer(y -> y.deeds(0), x);
            for (int from = 0; from < 3; from++) for (int to = 0; to < 3; to++) cutOnce(x, from, to);
            return x.deeds(0);
        }), 1);
        is("300 after 301", on(x -> { machine(x, DEEDS_301); machine(x, DEEDS_300); }, x -> { answer(y -> y.deeds(0), x); return x.deeds(1); }), 300);
    }

    static void cutOnce(Wagnerhall x, int from, int to) {
        answer(y -> y.cut(0, from, 'a', to), x);
        answer(y -> y.cut(0, from, 'b', to), x);
    }

    /** The machines 0 with 101 classes, 1 with 301 deeds, 2 with a again and again; eleven languages. */
    static void eleven(Wagnerhall x) {
        machine(x, CLASSES_101);
        machine(x, DEEDS_301);
        machine(x, OFTEN_A);
        for (int i = 0; i < 11; i++) x.language(2);
    }

    static void twelve(Wagnerhall x) {
        eleven(x);
        x.language(2);
    }

    static void languages() {
        terms("At most 12 languages of endless words are numbered from 0.");
        Wagnerhall x = new Wagnerhall();
        machine(x, OFTEN_A);
        for (int i = 0; i < 12; i++) is("language " + i, i % 4 == 0 ? x.language(0) : i % 4 == 1 ? x.turn(0, 'n') : i % 4 == 2 ? x.join(0, 1, '|') : x.shift(0, 'a'), i);
        is("all are there", x.languages(), 12);
        is("the last one", x.classes(11), 2);
        for (Ask more : new Ask[] {y -> y.language(0), y -> y.turn(0, 'n'), y -> y.join(0, 1, '|'), y -> y.shift(0, 'a')}) is("the 13th", answer(more, x), ISE);
        is("still 12", x.languages(), 12);
        row(13, "Returns how many languages there are.");
        is("none", on(y -> machine(y, OFTEN_A), y -> y.languages()), 0);
        is("one", on(y -> lang(y, OFTEN_A), y -> y.languages()), 1);
        is("12", on(BoundariesTest::twelve, y -> y.languages()), 12);
        is("a refused one counts not", on(BoundariesTest::eleven, y -> { answer(z -> z.language(0), y); answer(z -> z.language(1), y); return y.languages(); }), 11);
        row(12, "Adds the language of a machine, as it is now.");
        is("edges told later", on(y -> machine(y, NONE), y -> { y.language(0); y.edge(0, 0, 'a', 0, 1); y.language(0); return y.isA(0, 'e') + " " + y.isA(1, 'e'); }), "true false");
        is("edges cut later", on(y -> machine(y, OFTEN_A), y -> { y.language(0); y.cut(0, 0, 'a', 0); y.language(0); return y.isA(0, 'e') + " " + y.isA(1, 'e'); }), "false true");
        is("accepted otherwise later", on(y -> machine(y, OFTEN_A), y -> { y.language(0); y.accept(0, 'c', 0); y.language(0); return y.isSame(0, 1); }), false);
        row(12, "IndexOutOfBoundsException if there is no such machine");
        is("the last of 6", on(BoundariesTest::six, y -> y.language(5)), 0);
        refuses("of 6", BoundariesTest::six, IOOBE, outside(0, 5, (y, i) -> y.language(i)));
        refuses("of 3", BoundariesTest::eleven, IOOBE, outside(0, 2, (y, i) -> y.language(i)));
        terms("The language of a machine is made, if its words have at most 300 unlike deeds; two are joined, if words have at most 600 unlike pairs of a class of the one and a class of the other.");
        is("300 deeds", on(y -> machine(y, DEEDS_300), y -> y.language(0)), 0);
        refuses("301 deeds", y -> machine(y, DEEDS_301), UOE, y -> y.language(0));
        is("600 pairs", on(BoundariesTest::pairs600, y -> y.join(0, 1, '&')), 2);
        refuses("601 pairs", BoundariesTest::pairs601, UOE, y -> y.join(0, 1, '&'));
        terms("A language with more than 100 classes is refused, however it comes.");
        is("100 classes of a machine", on(y -> machine(y, CLASSES_100), y -> y.classes(y.language(0))), 100);
        is("100 classes of two joined", on(BoundariesTest::join100, y -> y.classes(y.join(0, 1, '&'))), 100);
        for (String machine : MORE_100) is("100 classes of " + machine, on(y -> machine(y, machine), y -> y.classes(y.language(0))), 100);
        for (String machine : MORE_101) refuses("101 classes of " + machine, y -> machine(y, machine), UOE, y -> y.language(0));
        is("100 classes, turned and shifted", on(y -> lang(y, CLASSES_100), y -> {
            y.turn(0, 'n');
            for (char how : "cli".toCharArray()) y.turn(0, how);
            y.shift(0, 'a');
            y.shift(0, 'b');
            return y.languages() + " " + y.classes(1) + " " + y.isSame(0, y.turn(1, 'n'));
        }), "7 100 true");
        refuses("101 classes of a machine", y -> machine(y, CLASSES_101), UOE, y -> y.language(0));
        refuses("101 classes of two joined", BoundariesTest::join101, UOE, y -> y.join(0, 1, '&'));
        row(12, "UnsupportedOperationException if there are more than 300 deeds, or it is refused");
        refuses("101 classes, 301 deeds", BoundariesTest::eleven, UOE, y -> y.language(0), y -> y.language(1));
        refuses("301 deeds, though it is empty", y -> { machine(y, DEEDS_301); y.accept(0, 'm', 0); }, UOE, y -> y.language(0));
        is("300 deeds, what is in it", on(y -> lang(y, DEEDS_300), y -> y.many(0, 6)), answer(y -> modelLang(DEEDS_300).many(0, 6), null));
        is("made after a refused one", on(BoundariesTest::eleven, y -> { answer(z -> z.language(0), y); return y.isSame(y.language(2), 0); }), true);
        row(12, "IllegalStateException if there are 12");
        is("there are 11", on(BoundariesTest::eleven, y -> y.language(2)), 11);
        refuses("there are 12", BoundariesTest::twelve, ISE, y -> y.language(2));
        is("after a drop", on(BoundariesTest::twelve, y -> { y.drop(); return y.language(2); }), 11);
    }

    static HelperModel modelLang(String text) {
        HelperModel model = modelOf(text);
        model.language(0);
        return model;
    }

    static Build two(String one, String other) {
        return x -> {
            lang(x, one);
            lang(x, other);
        };
    }

    static void pairs600(Wagnerhall x) {
        two(APART_600_ONE, APART_600_TWO).on(x);
    }

    static void pairs601(Wagnerhall x) {
        two(APART_601_ONE, APART_601_TWO).on(x);
    }

    static void join100(Wagnerhall x) {
        two(JOIN_100_ONE, JOIN_100_TWO).on(x);
    }

    static void join101(Wagnerhall x) {
        two(JOIN_101_ONE, JOIN_101_TWO).on(x);
    }

    static void turns() {
        row(14, "how: 'n' all other words, 'c' its closure, 'l' its part of liveness, 'i' its inner part");
        for (char how : "ncli".toCharArray()) {
            boolean isAll = how == 'n' || how == 'l';
            is("the empty one by " + how, on(x -> lang(x, NONE), x -> { x.turn(0, how); return x.isA(1, 'e') + " " + x.isA(1, 'u'); }), isAll ? "false true" : "true false");
            isAll = how != 'n';
            is("the whole one by " + how, on(x -> lang(x, ALL), x -> { x.turn(0, how); return x.isA(1, 'e') + " " + x.isA(1, 'u'); }), isAll ? "false true" : "true false");
        }
        row(14, "IndexOutOfBoundsException if there is no such language");
        is("the last of 6", on(HelperHouse::some, x -> x.turn(5, 'i')), 6);
        refuses("of 6", HelperHouse::some, IOOBE, outside(0, 5, (x, i) -> x.turn(i, 'n')));
        refuses("one that was dropped", then(HelperHouse::some, x -> x.drop()), IOOBE, x -> x.turn(5, 'n'));
        row(14, "IllegalArgumentException if there is no such way");
        refuses("other ways", HelperHouse::some, IAE, noneOf("ncli", (x, c) -> x.turn(0, c)));
        row(14, "IllegalStateException if there are 12");
        for (char how : "ncli".toCharArray()) {
            is("there are 11, " + how, on(BoundariesTest::eleven, x -> x.turn(10, how)), 11);
            refuses("there are 12, " + how, HelperHouse::full, ISE, x -> x.turn(0, how), x -> x.turn(11, how));
        }
    }

    static void joins() {
        row(15, "other: another one, or the same");
        is("itself by &", on(HelperHouse::some, x -> x.isSame(x.join(5, 5, '&'), 5)), true);
        is("itself by |", on(HelperHouse::some, x -> x.isSame(x.join(5, 5, '|'), 5)), true);
        is("itself by x", on(HelperHouse::some, x -> x.isA(x.join(5, 5, 'x'), 'e')), true);
        is("100 classes and itself", on(x -> lang(x, CLASSES_100), x -> x.classes(x.join(0, 0, '&'))), 100);
        row(15, "IndexOutOfBoundsException if there is no such language, for either");
        is("the last and the first of 6", on(HelperHouse::some, x -> x.join(5, 0, 'x')), 6);
        refuses("the one", HelperHouse::some, IOOBE, outside(0, 5, (x, i) -> x.join(i, 0, '&')));
        refuses("the other", HelperHouse::some, IOOBE, outside(0, 5, (x, i) -> x.join(0, i, '&')));
        refuses("both", HelperHouse::some, IOOBE, outside(0, 5, (x, i) -> x.join(i, i, '&')));
        row(15, "IllegalArgumentException if there is no such way");
        refuses("other ways", HelperHouse::some, IAE, noneOf("&|x", (x, c) -> x.join(0, 1, c)));
        refuses("other ways with itself", HelperHouse::some, IAE, noneOf("&|x", (x, c) -> x.join(5, 5, c)));
    }

    static void joinLimits() {
        row(15, "UnsupportedOperationException if there are more than 600 such pairs, or it is refused");
        for (char by : "&|x".toCharArray()) {
            refuses("601 pairs by " + by, BoundariesTest::pairs601, UOE, x -> x.join(0, 1, by), x -> x.join(1, 0, by));
            refuses("more than 600 pairs by " + by, two(PAIRS_601_ONE, PAIRS_601_TWO), UOE, x -> x.join(0, 1, by), x -> x.join(1, 0, by));
        }
        is("600 pairs of nothing in common", on(BoundariesTest::pairs600, x -> x.isA(x.join(0, 1, '&'), 'e')), true);
        is("600 pairs, the other first", on(BoundariesTest::pairs600, x -> x.isA(x.join(1, 0, '&'), 'e')), true);
        is("100 classes", on(BoundariesTest::join100, x -> x.classes(x.join(0, 1, '&'))), 100);
        refuses("101 classes", BoundariesTest::join101, UOE, x -> x.join(0, 1, '&'), x -> x.join(1, 0, '&'));
        refuses("600 pairs, but more than 100 classes", two(PAIRS_600_ONE, PAIRS_600_TWO), UOE, x -> x.join(0, 1, 'x'));
        is("joined after a refusal", on(BoundariesTest::pairs601, x -> { answer(y -> y.join(0, 1, '&'), x); return x.isSame(x.join(0, 0, '|'), 0); }), true);
        row(15, "IllegalStateException if there are 12");
        for (char by : "&|x".toCharArray()) {
            is("there are 11, " + by, on(BoundariesTest::eleven, x -> x.join(0, 10, by)), 11);
            refuses("there are 12, " + by, HelperHouse::full, ISE, x -> x.join(0, 1, by), x -> x.join(11, 11, by));
        }
    }

    static void shifts() {
        row(16, "IndexOutOfBoundsException if there is no such language");
        is("the last of 6", on(HelperHouse::some, x -> x.shift(5, 'b')), 6);
        refuses("of 6", HelperHouse::some, IOOBE, outside(0, 5, (x, i) -> x.shift(i, 'a')));
        row(16, "IllegalArgumentException if there is no such letter");
        refuses("other letters", HelperHouse::some, IAE, noneOf("ab", (x, c) -> x.shift(0, c)));
        row(16, "IllegalStateException if there are 12");
        is("there are 11", on(BoundariesTest::eleven, x -> x.shift(10, 'a')), 11);
        refuses("there are 12", HelperHouse::full, ISE, x -> x.shift(0, 'a'), x -> x.shift(11, 'b'));
    }

    static void drops() {
        row(17, "Returns how many are left.");
        Wagnerhall x = house(HelperHouse::full);
        for (int left = 11; left >= 0; left--) is("drop to " + left, x.drop(), left);
        is("none left", answer(y -> y.drop(), x), ISE);
        is("the number 0 again", x.language(0), 0);
        row(17, "IllegalStateException if there is none");
        refuses("no language yet", y -> machine(y, OFTEN_A), ISE, y -> y.drop());
        refuses("no language any more", y -> { lang(y, OFTEN_A); y.drop(); }, ISE, y -> y.drop());
        is("just one", on(y -> lang(y, OFTEN_A), y -> y.drop()), 0);
        refuses("what is dropped is gone", y -> { some(y); y.drop(); }, IOOBE, y -> y.classes(5), y -> y.has(5), y -> y.join(0, 5, '&'), y -> y.isSame(5, 5));
    }

    static void lassosInLanguages() {
        row(18, "IndexOutOfBoundsException if there is no such language");
        is("the last of 6", on(HelperHouse::some, x -> x.has(5)), false);
        refuses("of 6", HelperHouse::some, IOOBE, outside(0, 5, (x, i) -> x.has(i)));
        refuses("of 12", HelperHouse::full, IOOBE, outside(0, 11, (x, i) -> x.has(i)));
        row(18, "UnsupportedOperationException if the loop is empty");
        is("a loop of one letter, no way", on(then(HelperHouse::some, rows("", "b")), x -> x.has(3)), true);
        is("all letters", on(then(HelperHouse::some, rows(TEN_B, "bbbbbbbbba")), x -> x.has(0)), true);
        is("all letters, none a", on(then(HelperHouse::some, rows(TEN_B, TEN_B)), x -> x.has(3)), true);
        is("all letters, the first one a", on(then(HelperHouse::some, rows("abbbbbbbbb", TEN_B)), x -> x.has(3)), false);
        refuses("a way alone", then(HelperHouse::some, rows("ab", "")), UOE, x -> x.has(0), x -> x.has(5));
        refuses("no rows", then(HelperHouse::some, rows("", "")), UOE, x -> x.has(0), x -> x.has(5));
    }

    static void hundred(Wagnerhall x) {
        lang(x, CLASSES_100);
    }

    static void one(Wagnerhall x) {
        lang(x, ONE_A);
    }

    static void likeWords() {
        terms("Two words, not empty, are of one class of a language, if whatever stands ahead, perhaps nothing, and behind, perhaps nothing, and whatever loop follows, "
            + "both make words that are in the language, or both do not; and so for what stands ahead, and the word with what stands behind, perhaps nothing, as a loop.");
        is("told apart with nothing ahead alone", on(x -> lang(x, FIRST_A), x -> x.classes(0)), 2);
        is("told apart as loops alone", on(x -> lang(x, OFTEN_A), x -> x.classes(0)), 2);
        is("told apart ahead of loops alone", on(x -> lang(x, "2 m65535 0b0:0 0a1:0 1b1:0"), x -> x.classes(0)), 3);
        is("told apart by nothing", on(x -> lang(x, "3 b 0a1:1 0b2:1 1a2:1 1b0:1 2a0:1 2b1:1"), x -> x.classes(0)), 1);
        is("the empty word is in no class", on(x -> lang(x, ALL), x -> x.length(0, 0)), 1);
        is("the empty word is in no class, two letters do as none", on(x -> lang(x, "2 b 0a1:1 0b1:1 1a0:0 1b0:0"), x -> x.classes(0)), 1);
        is("just one endless word", on(x -> lang(x, "1 m65535 0a0:0"), x -> x.classes(0) + " " + x.product(0, 0, 1)), "2 1");
        is("each second letter: odd and even words, and those that spoil", on(x -> lang(x, EVEN_A), x -> x.classes(0)), modelLang(EVEN_A).lang(0).n);
    }

    static void classes() {
        terms("The classes are numbered from 0 by their first words: of each the shortest, of several the first, a ahead of b; classes by the lengths of these, then by these.");
        String[] words = {"a", "b", "aa", "ab", "ba", "bb"};
        Build one = BoundariesTest::one;
        int[] due = {0, 1, 2, 0, 0, 1};
        for (int i = 0; i < words.length; i++) {
            String row = words[i];
            is("class of " + row, on(then(one, rows(row, "")), y -> y.classOf(0)), due[i]);
        }
        is("lengths", on(one, y -> y.length(0, 0) + " " + y.length(0, 1) + " " + y.length(0, 2)), "1 1 2");
        terms("Classes multiply as their words do.");
        for (String left : words) {
            for (String right : words) is(left + " times " + right, on(x -> lang(x, EVEN_A), x -> isProduct(x, left, right)), true);
        }
        row(19, "IndexOutOfBoundsException if there is no such language");
        is("the last of 6", on(HelperHouse::some, y -> y.classes(5)), 7);
        is("the fewest", on(y -> lang(y, NONE), y -> y.classes(0)), 1);
        is("the most", on(BoundariesTest::hundred, y -> y.classes(0)), 100);
        refuses("of 6", HelperHouse::some, IOOBE, outside(0, 5, (y, i) -> y.classes(i)));
        row(20, "IndexOutOfBoundsException if there is no such language or class");
        is("the last of 100", on(BoundariesTest::hundred, y -> y.length(0, 99)), modelLang(CLASSES_100).length(0, 99));
        is("the only one", on(y -> lang(y, NONE), y -> y.length(0, 0)), 1);
        refuses("language", HelperHouse::some, IOOBE, outside(0, 5, (y, i) -> y.length(i, 0)));
        refuses("class of 3", one, IOOBE, outside(0, 2, (y, i) -> y.length(0, i)));
        refuses("class of 100", BoundariesTest::hundred, IOOBE, outside(0, 99, (y, i) -> y.length(0, i)));
        refuses("class of 1", y -> lang(y, NONE), IOOBE, outside(0, 0, (y, i) -> y.length(0, i)));
        refuses("a class of another language", HelperHouse::some, IOOBE, y -> y.length(0, 6));
        row(21, "IndexOutOfBoundsException if there is no such language, or class, for either");
        is("the last ones", on(BoundariesTest::hundred, y -> y.product(0, 99, 99)), modelLang(CLASSES_100).product(0, 99, 99));
        is("the same", on(one, y -> y.product(0, 0, 0)), 2);
        refuses("language", HelperHouse::some, IOOBE, outside(0, 5, (y, i) -> y.product(i, 0, 0)));
        refuses("left of 3", one, IOOBE, outside(0, 2, (y, i) -> y.product(0, i, 0)));
        refuses("right of 3", one, IOOBE, outside(0, 2, (y, i) -> y.product(0, 0, i)));
        refuses("left of 100", BoundariesTest::hundred, IOOBE, outside(0, 99, (y, i) -> y.product(0, i, 0)));
        refuses("right of 100", BoundariesTest::hundred, IOOBE, outside(0, 99, (y, i) -> y.product(0, 0, i)));
        refuses("both", one, IOOBE, outside(0, 2, (y, i) -> y.product(0, i, i)));
    }

    static boolean isProduct(Wagnerhall x, String left, String right) {
        return x.product(0, classOf(x, left), classOf(x, right)) == classOf(x, left + right);
    }

    static int classOf(Wagnerhall x, String row) {
        word(x, row, "");
        return x.classOf(0);
    }

    static void idempotents() {
        terms("A class is idempotent if it is its own square.");
        for (String machine : new String[] {ALL, NONE, ONE_A, EVEN_A, CLASSES_100}) {
            Wagnerhall x = house(y -> lang(y, machine));
            int due = 0;
            for (int i = 0; i < x.classes(0); i++) due += x.product(0, i, i) == i ? 1 : 0;
            is("of " + machine, x.idempotents(0), due);
        }
        row(23, "IndexOutOfBoundsException if there is no such language");
        is("the last of 6", on(HelperHouse::some, x -> x.idempotents(5)), modelLang(EVEN_A).idempotents(0));
        is("of one class", on(x -> lang(x, ALL), x -> x.idempotents(0)), 1);
        is("b and two a", on(BoundariesTest::one, x -> x.idempotents(0)), 2);
        refuses("of 6", HelperHouse::some, IOOBE, outside(0, 5, (x, i) -> x.idempotents(i)));
    }

    static void values() {
        row(22, "IndexOutOfBoundsException if there is no such language");
        is("the last of 6", on(HelperHouse::some, x -> x.classOf(5) < 7), true);
        refuses("of 6", HelperHouse::some, IOOBE, outside(0, 5, (x, i) -> x.classOf(i)));
        row(22, "UnsupportedOperationException if the way is empty");
        is("one letter, no loop", on(then(BoundariesTest::one, rows("b", "")), x -> x.classOf(0)), 1);
        is("ten letters", on(then(BoundariesTest::one, rows("bbbbbbbbba", "")), x -> x.classOf(0)), 0);
        refuses("a loop alone", then(BoundariesTest::one, rows("", "ab")), UOE, x -> x.classOf(0));
        refuses("no rows", BoundariesTest::one, UOE, x -> x.classOf(0));
        row(24, "index: the class, or -1 for no word");
        is("no word, then a", on(HelperHouse::some, x -> x.value(4, -1, 0)), true);
        is("no word, then b", on(HelperHouse::some, x -> x.value(4, -1, 1)), false);
        is("no word and the last class", on(BoundariesTest::hundred, x -> x.value(0, -1, 99)), modelLang(CLASSES_100).value(0, -1, 99));
        row(24, "IndexOutOfBoundsException if there is no such language, or class, for either");
        is("the last ones", on(BoundariesTest::hundred, x -> x.value(0, 99, 99)), modelLang(CLASSES_100).value(0, 99, 99));
        refuses("language", HelperHouse::some, IOOBE, outside(0, 5, (x, i) -> x.value(i, 0, 0)));
        refuses("language and no word", HelperHouse::some, IOOBE, outside(0, 5, (x, i) -> x.value(i, -1, 0)));
        refuses("class of 3", BoundariesTest::one, IOOBE, outside(-1, 2, (x, i) -> x.value(0, i, 0)));
        refuses("loop of 3", BoundariesTest::one, IOOBE, outside(0, 2, (x, i) -> x.value(0, 0, i)));
        refuses("no word and the loop of 3", BoundariesTest::one, IOOBE, outside(0, 2, (x, i) -> x.value(0, -1, i)));
        refuses("class of 100", BoundariesTest::hundred, IOOBE, outside(-1, 99, (x, i) -> x.value(0, i, 0)));
        refuses("loop of 100", BoundariesTest::hundred, IOOBE, outside(0, 99, (x, i) -> x.value(0, 99, i)));
    }

    static void comparisons() {
        row(25, "IndexOutOfBoundsException if there is no such language, for either");
        is("the last ones", on(HelperHouse::full, x -> x.isSame(11, 11)), true);
        is("the last and the first", on(HelperHouse::full, x -> x.isSame(11, 0)), false);
        is("two of no words", on(two(NONE, NONE), x -> x.isSame(0, 1)), true);
        is("no words and all", on(two(NONE, ALL), x -> x.isSame(0, 1)), false);
        refuses("the one", HelperHouse::some, IOOBE, outside(0, 5, (x, i) -> x.isSame(i, 0)));
        refuses("the other", HelperHouse::some, IOOBE, outside(0, 5, (x, i) -> x.isSame(0, i)));
        refuses("both", HelperHouse::some, IOOBE, outside(0, 5, (x, i) -> x.isSame(i, i)));
        row(26, "IndexOutOfBoundsException if there is no such language, for either");
        is("the last one within itself", on(HelperHouse::full, x -> x.isWithin(11, 11)), true);
        is("no words within none", on(two(NONE, NONE), x -> x.isWithin(0, 1)), true);
        is("no words within all", on(two(NONE, ALL), x -> x.isWithin(0, 1)), true);
        is("all within none", on(two(NONE, ALL), x -> x.isWithin(1, 0)), false);
        refuses("the one", HelperHouse::some, IOOBE, outside(0, 5, (x, i) -> x.isWithin(i, 0)));
        refuses("the other", HelperHouse::some, IOOBE, outside(0, 5, (x, i) -> x.isWithin(0, i)));
        refuses("both", HelperHouse::some, IOOBE, outside(0, 5, (x, i) -> x.isWithin(i, i)));
        row(26, "UnsupportedOperationException if there are more than 600 such pairs");
        is("600", on(BoundariesTest::pairs600, x -> x.isWithin(0, 1)), false);
        is("600, the other first", on(BoundariesTest::pairs600, x -> x.isWithin(1, 0)), false);
        is("600, of too many classes", on(two(PAIRS_600_ONE, PAIRS_600_TWO), x -> x.isWithin(0, 1)), modelWithin(PAIRS_600_ONE, PAIRS_600_TWO));
        is("100 and itself", on(BoundariesTest::hundred, x -> x.isWithin(0, 0)), true);
        refuses("601", BoundariesTest::pairs601, UOE, x -> x.isWithin(0, 1), x -> x.isWithin(1, 0));
        refuses("601 of others", two(PAIRS_601_ONE, PAIRS_601_TWO), UOE, x -> x.isWithin(0, 1), x -> x.isWithin(1, 0));
    }

    static boolean modelWithin(String one, String other) {
        HelperModel model = modelOf(one, other);
        model.language(0);
        model.language(1);
        return model.isWithin(0, 1);
    }

    static final Build EIGHT = x -> {
        lang(x, NONE);
        lang(x, "4 b 0b3:1 1a1:1 1b0:0 2a0:1 2b0:1 3b1:1");
        lang(x, "4 b 0b3:0 1a1:1 2a3:1 2b1:0 3a0:1 3b2:1");
        x.join(1, 2, '&');
        word(x, "a", "b");
    };

    static final Build NINE = x -> {
        lang(x, NONE);
        lang(x, "4 b 0a2:1 0b1:0 0b2:1 1a1:0 1b0:0 2a1:1 3b3:0");
        lang(x, "4 b 0b2:0 1a3:0 2b3:0 3a0:0 3b0:1");
        x.join(1, 2, '&');
        word(x, "a", "b");
    };

    static void apart() {
        row(27, "by the letters of both rows together, then by the way, the shorter one first, then by its letters, then by those of the loop");
        is("the very first", on(two(NONE, ALL), x -> x.apart(0, 1) + lasso(x)), "1(a)");
        is("the second", on(two(NONE, NO_A), x -> x.apart(1, 0) + lasso(x)), "1(b)");
        is("the shorter way first", on(two(FIRST_A, SOME_A), x -> x.apart(0, 1) + lasso(x)), "2(ba)");
        is("the way by its letters", on(two(NONE, "2 m65535 0b1:0 1a1:0"), x -> x.apart(0, 1) + lasso(x)), "2b(a)");
        is("a lasso of eight letters", on(EIGHT, x -> x.apart(0, 3) + lasso(x)), "8bbaabbb(a)");
        is("the other first", on(EIGHT, x -> x.apart(3, 0) + lasso(x)), "8bbaabbb(a)");
        is("full rows are put aside", on(then(two(NONE, ALL), rows(TEN_A, TEN_B)), x -> x.apart(0, 1) + lasso(x)), "1(a)");
        row(27, "IndexOutOfBoundsException if there is no such language, for either");
        is("the last and the first", on(HelperHouse::full, x -> x.apart(11, 0)), 1);
        refuses("the one", HelperHouse::some, IOOBE, outside(0, 5, (x, i) -> x.apart(i, 0)));
        refuses("the other", HelperHouse::some, IOOBE, outside(0, 5, (x, i) -> x.apart(0, i)));
        refuses("both the same", HelperHouse::some, IOOBE, outside(0, 5, (x, i) -> x.apart(i, i)));
        row(27, "NoSuchElementException if there is none with up to 8 letters");
        refuses("itself", HelperHouse::some, NSE, x -> x.apart(0, 0), x -> x.apart(5, 5));
        refuses("two that are the same", then(two(NONE, NONE), rows("ab", "ba")), NSE, x -> x.apart(0, 1), x -> x.apart(1, 0));
        is("not the same, but alike up to 8 letters", on(NINE, x -> x.isSame(0, 3)), false);
        refuses("the first has 9 or more", NINE, NSE, x -> x.apart(0, 3), x -> x.apart(3, 0));
    }

    static void kinds() {
        row(28, "IndexOutOfBoundsException if there is no such language");
        is("the last of 12", on(HelperHouse::full, x -> x.isA(11, 'u')), false);
        refuses("of 6", HelperHouse::some, IOOBE, outside(0, 5, (x, i) -> x.isA(i, 'e')));
        row(28, "IllegalArgumentException if there is no such kind");
        refuses("other kinds", HelperHouse::some, IAE, noneOf("euocdgfakp", (x, c) -> x.isA(0, c)));
        row(28, "kind: 'e' without words, 'u' with all, 'o' open, 'c' closed, 'd' dense, 'g', 'f', 'a' each class times its idempotent power is this power, "
            + "'k' products of classes commute, 'p' shifted by either letter it is itself");
        for (char kind : "euocdgfakp".toCharArray()) {
            is("no words are " + kind, on(x -> lang(x, NONE), x -> x.isA(0, kind)), "eocgfakp".indexOf(kind) >= 0);
            is("all words are " + kind, on(x -> lang(x, ALL), x -> x.isA(0, kind)), "uocdgfakp".indexOf(kind) >= 0);
        }
        is("all words but (a)", on(then(x -> lang(x, "1 m65535 0a0:0"), x -> x.turn(0, 'n')), x -> x.isA(1, 'u')), false);
        is("the word (a) alone", on(x -> lang(x, "1 m65535 0a0:0"), x -> x.isA(0, 'e')), false);
        is("by one letter itself, not by the other", on(x -> lang(x, "2 m65535 0a0:0 0b1:0 1b1:0"), x -> x.isA(0, 'p')), false);
        is("by the other one", on(x -> lang(x, "2 m65535 0b0:0 0a1:0 1a1:0"), x -> x.isA(0, 'p')), false);
        terms("A language is 'g' if no chain begins with a loop that is in the language and has two loops, 'f' if none begins with one that is not, and has two.");
        is("a chain of two that begins in", on(x -> lang(x, LAST_A), x -> x.chain(0, true) + " " + x.isA(0, 'g') + " " + x.isA(0, 'f')), "2 false true");
        is("a chain of two that begins out", on(x -> lang(x, OFTEN_A), x -> x.chain(0, false) + " " + x.isA(0, 'g') + " " + x.isA(0, 'f')), "2 true false");
        is("chains of one", on(x -> lang(x, FIRST_A), x -> x.chain(0, true) + " " + x.isA(0, 'g') + " " + x.isA(0, 'f')), "1 true true");
        is("chains of none", on(x -> lang(x, NONE), x -> x.chain(0, true) + " " + x.isA(0, 'g') + " " + x.isA(0, 'f')), "0 true true");
    }

    static void closures() {
        terms("The closure of a language has all words each beginning of which, however long, some word of the language has.");
        is("no word has a beginning", on(x -> lang(x, NONE), x -> x.isSame(0, x.turn(0, 'c'))), true);
        is("some a: each beginning goes on to a", on(x -> lang(x, SOME_A), x -> x.isA(x.turn(0, 'c'), 'u')), true);
        is("one more word at the limit", on(then(x -> lang(x, ONE_A), x -> x.turn(0, 'c')), x -> { word(x, "", "b"); return x.has(0) + " " + x.has(1); }), "false true");
        is("two a are never reached", on(then(x -> lang(x, ONE_A), x -> x.turn(0, 'c')), x -> { word(x, "aa", "b"); return x.has(1); }), false);
        terms("A language is closed if it is its closure, open if the words that are not in it are a closed one, dense if its closure has all words.");
        String[] machines = {NONE, ALL, SOME_A, NO_A, FIRST_A, OFTEN_A, ONE_A};
        String[] due = {"co", "cod", "od", "c", "co", "d", ""};
        for (int i = 0; i < machines.length; i++) {
            for (char kind : "cod".toCharArray()) {
                String machine = machines[i];
                is(machine + " is " + kind, on(x -> lang(x, machine), x -> x.isA(0, kind)), due[i].indexOf(kind) >= 0);
            }
        }
        terms("The part of safety is its closure, the part of liveness the language and all words outside of its closure; "
            + "the inner part has all words that have a beginning with which all words are in the language.");
        is("liveness of none is all", on(x -> lang(x, NONE), x -> x.isA(x.turn(0, 'l'), 'u')), true);
        is("liveness of a closed one", on(x -> lang(x, NO_A), x -> x.isA(x.turn(0, 'l'), 'u')), true);
        is("liveness of a dense one", on(x -> lang(x, OFTEN_A), x -> x.isSame(x.turn(0, 'l'), 0)), true);
        is("liveness of b but for one a", on(then(x -> lang(x, ONE_A), x -> x.turn(0, 'l')), x -> { word(x, "", "b"); return x.has(1); }), false);
        is("the inner part of a dense one without a beginning", on(x -> lang(x, OFTEN_A), x -> x.isA(x.turn(0, 'i'), 'e')), true);
        is("a beginning, perhaps none", on(x -> lang(x, ALL), x -> x.isA(x.turn(0, 'i'), 'u')), true);
    }

    static void chains() {
        row(29, "Returns the length, 0 if there is none.");
        is("none in the empty one", on(x -> lang(x, NONE), x -> x.chain(0, true)), 0);
        is("one out of the empty one", on(x -> lang(x, NONE), x -> x.chain(0, false)), 1);
        is("one in the whole one", on(x -> lang(x, ALL), x -> x.chain(0, true)), 1);
        is("none out of the whole one", on(x -> lang(x, ALL), x -> x.chain(0, false)), 0);
        terms("A place is a class, and a loop there is an idempotent class that leaves it as it is, standing behind it; "
            + "its value tells whether a word of the place and then this loop is in the language.");
        is("values by the place, which no loop changes", on(x -> lang(x, FIRST_A), x -> x.chain(0, true) + " " + x.chain(0, false)), "1 1");
        is("one endless word", on(x -> lang(x, "1 m65535 0a0:0"), x -> x.chain(0, true) + " " + x.chain(0, false)), "1 1");
        terms("A loop is extended by any class that leaves the place as it is: to the idempotent power of the product of the loop and this one.");
        is("b by a", on(x -> lang(x, OFTEN_A), x -> x.chain(0, true) + " " + x.chain(0, false)), "1 2");
        is("a by b", on(x -> lang(x, LAST_A), x -> x.chain(0, true) + " " + x.chain(0, false)), "2 1");
        is("b by what has two a", on(x -> lang(x, "2 b 0a1:0 0b0:0 1a1:1 1b0:0"), x -> x.chain(0, true) + " " + x.chain(0, false)), "1 2");
        terms("A chain is a row of loops of one place, each one an extension of the one ahead, in which values alternate; its length is how many loops it has.");
        for (boolean isIn : new boolean[] {true, false}) {
            is("a parity of four colours, " + isIn, on(x -> lang(x, "4 p 0a0:1 0b1:0 1a0:2 1b2:0 2a0:4 2b3:0 3a0:8 3b3:0"), x -> x.chain(0, isIn)),
                HelperModel.chain(modelLang("4 p 0a0:1 0b1:0 1a0:2 1b2:0 2a0:4 2b3:0 3a0:8 3b3:0").lang(0), isIn));
        }
        row(29, "IndexOutOfBoundsException if there is no such language");
        is("the last of 12", on(HelperHouse::full, x -> x.chain(11, true)), 1);
        refuses("in", HelperHouse::some, IOOBE, outside(0, 5, (x, i) -> x.chain(i, true)));
        refuses("out", HelperHouse::some, IOOBE, outside(0, 5, (x, i) -> x.chain(i, false)));
    }

    static void residualsAndVerdicts() {
        row(30, "Returns how many unlike languages come of shifting by the letters of words, one by one, the first letter first; of no word, too.");
        is("of no word alone", on(x -> lang(x, ALL), x -> x.residuals(0)), 1);
        is("itself comes of no word", on(x -> lang(x, FIRST_A), x -> x.residuals(0)), 3);
        is("itself comes of words, too", on(x -> lang(x, EVEN_A), x -> x.residuals(0)), 3);
        row(30, "IndexOutOfBoundsException if there is no such language");
        is("the last of 12", on(HelperHouse::full, x -> x.residuals(11)), 3);
        refuses("of 6", HelperHouse::some, IOOBE, outside(0, 5, (x, i) -> x.residuals(i)));
        row(31, "Returns '+' all are in the language, '-' none, '?' some.");
        is("no way, all", on(x -> lang(x, ALL), x -> x.verdict(0)), '+');
        is("no way, none", on(x -> lang(x, NONE), x -> x.verdict(0)), '-');
        is("no way, some", on(x -> lang(x, FIRST_A), x -> x.verdict(0)), '?');
        is("all, the loop is no matter", on(then(x -> lang(x, FIRST_A), rows("a", "b")), x -> x.verdict(0)), '+');
        is("none, the loop is no matter", on(then(x -> lang(x, FIRST_A), rows("b", "a")), x -> x.verdict(0)), '-');
        is("a loop alone is no beginning", on(then(x -> lang(x, FIRST_A), rows("", "a")), x -> x.verdict(0)), '?');
        is("ten letters", on(then(x -> lang(x, SOME_A), rows(TEN_B, "a")), x -> x.verdict(0)), '?');
        is("ten letters, the last one a", on(then(x -> lang(x, SOME_A), rows("bbbbbbbbba", "")), x -> x.verdict(0)), '+');
        row(31, "IndexOutOfBoundsException if there is no such language");
        is("the last of 12", on(HelperHouse::full, x -> "" + x.verdict(10) + x.verdict(11)), "-?");
        refuses("of 6", HelperHouse::some, IOOBE, outside(0, 5, (x, i) -> x.verdict(i)));
    }

    static void many() {
        row(32, "letters: 1 to 8");
        is("1", on(x -> lang(x, ALL), x -> x.many(0, 1)), 2);
        is("2", on(x -> lang(x, ALL), x -> x.many(0, 2)), 10);
        is("7", on(x -> lang(x, ALL), x -> x.many(0, 7)), 1538);
        is("8", on(x -> lang(x, ALL), x -> x.many(0, 8)), 3586);
        is("none of 8", on(x -> lang(x, NONE), x -> x.many(0, 8)), 0);
        is("none of 1", on(x -> lang(x, NONE), x -> x.many(0, 1)), 0);
        row(32, "lassos are counted as rows, also those that stand for the same word");
        is("(a), a(a), (aa)", on(x -> lang(x, "1 m65535 0a0:0"), x -> x.many(0, 2)), 3);
        is("eight letters a", on(x -> lang(x, "1 m65535 0a0:0"), x -> x.many(0, 8)), 36);
        row(32, "IndexOutOfBoundsException if there is no such language");
        is("the last of 6", on(HelperHouse::some, x -> x.many(5, 8)), modelLang(EVEN_A).many(0, 8));
        refuses("of 6", HelperHouse::some, IOOBE, outside(0, 5, (x, i) -> x.many(i, 1)));
        row(32, "IllegalArgumentException if it is out of range");
        refuses("other numbers", HelperHouse::some, IAE, outside(1, 8, (x, i) -> x.many(0, i)));
    }

    static void signs() {
        terms("A text has at most 30 signs, in front of what they belong to:");
        Wagnerhall x = new Wagnerhall();
        for (int i = 0; i < 30; i++) is("sign " + (i + 1), x.sign("a!&|XFGU".charAt(i % 8)), i + 1);
        is("the 31st", answer(y -> y.sign('a'), x), ISE);
        is("still 30", x.erase(), 30);
        is("after erase there is room", x.sign('U'), 1);
        row(33, "IllegalArgumentException if there is no such sign");
        for (char sign : "a!&|XFGU".toCharArray()) is("the sign " + sign, on(HelperHouse::some, y -> y.sign(sign)), 3);
        refuses("other signs", HelperHouse::some, IAE, noneOf("a!&|XFGU", (y, c) -> y.sign(c)));
        refuses("other signs, none before", y -> word(y, "", "a"), IAE, noneOf("a!&|XFGU", (y, c) -> y.sign(c)));
        row(33, "IllegalStateException if it has 30");
        Build thirty = y -> { word(y, "", "b"); text(y, THIRTY); };
        is("it has 29", on(y -> text(y, THIRTY.substring(1)), y -> y.sign('X')), 30);
        for (char sign : "a!&|XFGU".toCharArray()) refuses("it has 30, " + sign, thirty, ISE, y -> y.sign(sign));
        row(34, "Returns how many signs it had.");
        is("none", on(y -> { }, y -> y.erase()), 0);
        is("one", on(y -> y.sign('F'), y -> y.erase()), 1);
        is("30", on(thirty, y -> y.erase()), 30);
        is("twice", on(thirty, y -> { y.erase(); return y.erase(); }), 0);
        is("the lasso is kept", on(HelperHouse::some, y -> { y.erase(); return lasso(y); }), "ab(ba)");
    }

    static Object holds(String signs, String way, String loop) {
        return on(x -> { text(x, signs); word(x, way, loop); }, x -> x.holds());
    }

    static void formulas() {
        terms("'a' the first letter is a; '!' not; '&' and '|' of two; 'X' of the word without its first letter; 'F' of some word that is left when letters are taken off in front, "
            + "perhaps none, 'G' of all these; 'U' of two: the second one holds of some such word, and the first one of all for which fewer letters are taken off.");
        is("F of the word itself", holds("Fa", "a", "b"), true);
        is("F of the last letter of the way", holds("Fa", "bbbbbbbbba", "b"), true);
        is("F of the last letter of the loop", holds("Fa", "b", "bbbbbbbbba"), true);
        is("F of none", holds("Fa", TEN_B, TEN_B), false);
        is("G of the word itself", holds("Ga", "b", "a"), false);
        is("G of the last letter of the loop", holds("Ga", TEN_A, "aaaaaaaaab"), false);
        is("G of all", holds("Ga", TEN_A, TEN_A), true);
        is("U with none taken off", holds("U!aa", "a", "b"), true);
        is("U with none taken off, the first one never holds", holds("U&a!aa", "a", "b"), true);
        is("U, the first one need not hold where the second one does", holds("Ua!a", "aab", "b"), true);
        is("U, the first one holds up to there", holds("Ua&!aX!a", "aaabb", "a"), true);
        is("U, the first one fails before", holds("Ua&!aX!a", "ababb", "a"), false);
        is("U, the second one never holds", holds("Ua!a", "", "a"), false);
        is("U round the loop", holds("U!aa", "", "bbbbbbbbba"), true);
        is("X out of the way into the loop", holds("Xa", "b", "ab"), true);
        is("X round the loop of one letter", holds("Xa", "", "a"), true);
        is("X round the loop", holds("XXa", "", "ab"), true);
        row(35, "UnsupportedOperationException if the text is no formula, or the loop is empty");
        is("one sign", holds("a", "", "a"), true);
        is("30 signs", holds(THIRTY, "", "b"), true);
        is("30 signs, the other letter", holds(THIRTY, "", "a"), false);
        is("30 signs of X, all letters", holds("XXXXXXXXXXXXXXXXXXXXXXXXXXXXXa", TEN_A, "bbbbbbbbba"), true);
        is("29 signs of two", holds("&&&&&&&&&&&&&&aaaaaaaaaaaaaaa", "", "a"), true);
        is("29 signs of two, deep behind", holds("|a|a|a|a|a|a|a|a|a|a|a|a|a|aXa", "b", "b"), false);
        String[] texts = {"", "!", "X", "F", "G", "&", "|", "U", "aa", "a!", "&a", "|a", "Ua", "&aaa", "!aa", "UaUa", "||aa", "FG", THIRTY.replace('a', '!'),
            "&&&&&&&&&&&&&&&aaaaaaaaaaaaaaa", "aaaaaaaaaaaaaaaaaaaaaaaaaaaaaa"};
        for (String signs : texts) refuses("no formula: " + signs, x -> { some(x); text(x, signs); }, UOE, x -> x.holds());
        refuses("a way alone", then(HelperHouse::some, rows("ab", "")), UOE, x -> x.holds());
        refuses("no rows", then(HelperHouse::some, rows("", "")), UOE, x -> x.holds());
        refuses("no formula and no loop", x -> { }, UOE, x -> x.holds());
    }

    static void agrees() {
        row(36, "letters: 1 to 6");
        Build build = x -> { lang(x, ALL); text(x, "|a!a"); };
        is("1", on(build, x -> x.agrees(0, 1)), 2);
        is("6", on(build, x -> x.agrees(0, 6)), 642);
        is("none of 6", on(x -> { lang(x, NONE); text(x, "|a!a"); }, x -> x.agrees(0, 6)), 0);
        is("none has and none holds", on(x -> { lang(x, NONE); text(x, "&a!a"); }, x -> x.agrees(0, 6)), 642);
        is("the rows typed are no matter", on(then(build, rows("", "")), x -> x.agrees(0, 6)), 642);
        row(36, "IndexOutOfBoundsException if there is no such language");
        is("the last of 6", on(then(HelperHouse::some, x -> text(x, "a")), x -> x.agrees(5, 1)), 2);
        refuses("of 6", HelperHouse::some, IOOBE, outside(0, 5, (x, i) -> x.agrees(i, 1)));
        row(36, "IllegalArgumentException if it is out of range");
        refuses("other numbers", HelperHouse::some, IAE, outside(1, 6, (x, i) -> x.agrees(0, i)));
        row(36, "UnsupportedOperationException if the text is no formula");
        for (String signs : new String[] {"", "!", "aa", "&a", THIRTY.replace('a', '!')}) {
            refuses("no formula: " + signs, x -> { some(x); text(x, signs); }, UOE, x -> x.agrees(0, 1), x -> x.agrees(5, 6));
        }
    }

    static Build positions(int count) {
        return x -> {
            for (int i = 0; i < count; i++) x.position(i % 2, i % 6);
            for (int i = 0; i < count; i++) x.way(i, (i + 1) % count);
        };
    }

    static void positions() {
        terms("There are at most 10 positions, numbered from 0, each of the player 0 or 1, with a colour 0 to 5, and ways to positions.");
        Wagnerhall x = new Wagnerhall();
        for (int i = 0; i < 10; i++) is("position " + i, x.position(i % 2, i % 6), i);
        is("the 11th", answer(y -> y.position(0, 0), x), ISE);
        for (int i = 0; i < 100; i++) is("way " + i, x.way(i / 10, i % 10), true);
        for (int i = 0; i < 100; i++) is("way " + i + " away", x.way(i / 10, i % 10), false);
        row(37, "IllegalArgumentException if a number is out of range");
        for (int player = 0; player <= 1; player++) {
            for (int colour = 0; colour <= 5; colour++) {
                int who = player;
                int of = colour;
                is("player " + who + ", colour " + of, on(positions(2), y -> y.position(who, of)), 2);
                is("won with its own way", on(y -> { y.position(who, of); y.way(0, 0); }, y -> y.wins(0)), of % 2 == 0);
            }
        }
        refuses("players", HelperHouse::some, IAE, outside(0, 1, (y, i) -> y.position(i, 0)));
        refuses("colours", HelperHouse::some, IAE, outside(0, 5, (y, i) -> y.position(0, i)));
        refuses("colours of player 1", HelperHouse::some, IAE, outside(0, 5, (y, i) -> y.position(1, i)));
        refuses("both", HelperHouse::some, IAE, outside(0, 5, (y, i) -> y.position(i, i)));
        row(37, "IllegalStateException if there are 10");
        is("there are 9", on(positions(9), y -> y.position(1, 5)), 9);
        refuses("there are 10", positions(10), ISE, y -> y.position(0, 0), y -> y.position(1, 5));
    }

    static void waysOfGames() {
        row(38, "Tells a way, or takes it away.");
        is("told, taken, told", on(positions(3), x -> x.way(0, 2) + " " + x.way(0, 2) + " " + x.way(0, 2)), "true false true");
        is("taken and told", on(positions(3), x -> x.way(0, 1) + " " + x.way(0, 1)), "false true");
        is("not the way back", on(positions(3), x -> x.way(1, 0)), true);
        row(38, "to: the position, or the same");
        is("the same", on(positions(3), x -> x.way(2, 2) + " " + x.wins(2) + " " + x.way(2, 2)), "true true false");
        is("the last to itself", on(positions(10), x -> x.way(9, 9)), true);
        row(38, "IndexOutOfBoundsException if there is no such position, for either");
        is("the last to the first", on(positions(10), x -> x.way(9, 1)), true);
        refuses("from of 3", positions(3), IOOBE, outside(0, 2, (x, i) -> x.way(i, 0)));
        refuses("to of 3", positions(3), IOOBE, outside(0, 2, (x, i) -> x.way(0, i)));
        refuses("from of 10", positions(10), IOOBE, outside(0, 9, (x, i) -> x.way(i, 0)));
        refuses("to of 10", positions(10), IOOBE, outside(0, 9, (x, i) -> x.way(0, i)));
        refuses("both of 10", positions(10), IOOBE, outside(0, 9, (x, i) -> x.way(i, i)));
        row(39, "IndexOutOfBoundsException if there is no such position");
        is("the last of 10", on(positions(10), x -> x.wins(9)), false);
        refuses("of 10", positions(10), IOOBE, outside(0, 9, (x, i) -> x.wins(i)));
        refuses("of 3", positions(3), IOOBE, outside(0, 2, (x, i) -> x.wins(i)));
        terms("Who is at a position chooses a way of it; who has none loses.");
        is("player 0 has none", on(x -> x.position(0, 0), x -> x.wins(0)), false);
        is("player 1 has none", on(x -> x.position(1, 1), x -> x.wins(0)), true);
        is("player 0 has none any more", on(x -> { x.position(0, 0); x.way(0, 0); x.way(0, 0); }, x -> x.wins(0)), false);
        is("player 0 leads player 1 to where is none", on(x -> game(x, "01 11 0>0 0>1"), x -> x.wins(0)), true);
        is("player 1 leads player 0 to where is none", on(x -> game(x, "10 00 0>0 0>1"), x -> x.wins(0)), false);
        terms("A play without end is won by the player 0, if the greatest colour that comes again and again without end is even.");
        for (int colour = 0; colour <= 5; colour++) {
            for (int other = 0; other <= 5; other++) {
                String text = "0" + colour + " 1" + other + " 0>1 1>0";
                is("round by " + text, on(x -> game(x, text), x -> x.wins(0)), Math.max(colour, other) % 2 == 0);
                String away = "0" + colour + " 1" + other + " 0>1 1>1";
                is("colours that come once: " + away, on(x -> game(x, away), x -> x.wins(0)), other % 2 == 0);
            }
        }
    }

    static void moves() {
        row(40, "Returns the lowest position to which who is at a position can go, and from which the same player wins.");
        is("the lowest of several", on(x -> game(x, "02 02 02 2>1 2>2 2>0 0>0 1>1"), x -> x.move(2)), 0);
        is("the lowest is lost", on(x -> game(x, "01 02 02 2>1 2>2 2>0 0>0 1>1"), x -> x.move(2)), 1);
        is("itself", on(x -> game(x, "01 01 02 2>1 2>2 2>0 0>0 1>1"), x -> x.move(2)), 2);
        is("player 1", on(x -> game(x, "02 11 13 2>1 2>2 2>0 0>0 1>1"), x -> x.move(2)), 1);
        is("the last of 10", on(then(positions(10), x -> x.way(9, 9)), x -> x.move(9)), 0);
        row(40, "IndexOutOfBoundsException if there is no such position");
        refuses("of 10", positions(10), IOOBE, outside(0, 9, (x, i) -> x.move(i)));
        refuses("of 3", positions(3), IOOBE, outside(0, 2, (x, i) -> x.move(i)));
        row(40, "NoSuchElementException if who is at it loses");
        refuses("player 0 has no way", x -> x.position(0, 0), NSE, x -> x.move(0));
        refuses("player 1 has no way", x -> x.position(1, 1), NSE, x -> x.move(0));
        refuses("player 0 goes round by 1", x -> game(x, "01 0>0"), NSE, x -> x.move(0));
        refuses("player 1 goes round by 0", x -> game(x, "10 0>0"), NSE, x -> x.move(0));
        refuses("the other one wins wherever it goes", x -> game(x, "02 11 13 0>1 0>2 1>1 2>2"), NSE, x -> x.move(0));
        row(41, "Returns how many positions the player 0 wins from.");
        is("none", on(x -> { }, x -> x.won()), 0);
        is("ten", on(x -> { for (int i = 0; i < 10; i++) x.position(1, 5); }, x -> x.won()), 10);
        is("none of ten", on(x -> { for (int i = 0; i < 10; i++) x.position(0, 4); }, x -> x.won()), 0);
    }

    /** The checksum by its own words, on numbers without a limit. */
    static BigInteger sum(String... machines) {
        BigInteger sum = BigInteger.valueOf(7);
        BigInteger step = BigInteger.valueOf(31);
        for (String machine : machines) {
            HelperModel model = modelLang(machine);
            int classes = model.lang(0).n;
            model.type('a', false);
            int a = model.classOf(0);
            model.wipe();
            model.type('b', false);
            int b = model.classOf(0);
            int in = 0;
            for (int x = 0; x < classes; x++) {
                sum = sum.multiply(step).add(BigInteger.valueOf(model.product(0, x, a)));
                sum = sum.multiply(step).add(BigInteger.valueOf(model.product(0, x, b)));
                for (int t = 0; t < classes; t++) in += model.value(0, x, t) ? 1 : 0;
            }
            sum = sum.multiply(step).add(BigInteger.valueOf(in));
        }
        return sum;
    }

    static void sums() {
        row(42, "Returns 7 at first, then for each language, and each class, 31 times itself plus the class behind it by a, then 31 times itself plus that by b; "
            + "then 31 times itself plus how many pairs of a class and any class as a loop have a word in the language.");
        is("no language", on(x -> { }, x -> x.checksum()), 7L);
        is("no language any more", on(x -> { some(x); for (int i = 0; i < 6; i++) x.drop(); }, x -> x.checksum()), 7L);
        is("no words", on(x -> lang(x, NONE), x -> x.checksum()), sum(NONE).longValueExact());
        is("all words", on(x -> lang(x, ALL), x -> x.checksum()), sum(ALL).longValueExact());
        is("one a", on(x -> lang(x, ONE_A), x -> x.checksum()), sum(ONE_A).longValueExact());
        is("twelve steps fit", on(two(ONE_A, OFTEN_A), x -> x.checksum()), sum(ONE_A, OFTEN_A).longValueExact());
        is("thirteen do not", sum(OFTEN_A, OFTEN_A, NONE).bitLength() > 64, true);
        is("wrapped round by the last steps", on(then(two(OFTEN_A, OFTEN_A), x -> lang(x, NONE)), x -> x.checksum()), sum(OFTEN_A, OFTEN_A, NONE).longValue());
        for (String machine : new String[] {EVEN_A, CLASSES_100, JOIN_100_TWO}) {
            is("it is longer than a long", sum(machine).bitLength() > 64, true);
            is("wrapped round", on(x -> lang(x, machine), x -> x.checksum()), sum(machine).longValue());
        }
        is("twelve languages", on(BoundariesTest::twelve, x -> x.checksum()),
            sum(OFTEN_A, OFTEN_A, OFTEN_A, OFTEN_A, OFTEN_A, OFTEN_A, OFTEN_A, OFTEN_A, OFTEN_A, OFTEN_A, OFTEN_A, OFTEN_A).longValue());
        row(43, "Returns their number divided by that of all, both converted to float.");
        is("none", on(x -> lang(x, NONE), x -> x.share(0)), 0.0f);
        is("all", on(x -> lang(x, ALL), x -> x.share(0)), 1.0f);
        is("one letter", on(x -> lang(x, "1 m65535 0a0:0"), x -> x.share(0)), 15.0f / 258.0f);
        row(43, "IndexOutOfBoundsException if there is no such language");
        is("the last of 12", on(HelperHouse::full, x -> x.share(10)), 0.5f);
        refuses("of 6", HelperHouse::some, IOOBE, outside(0, 5, (x, i) -> x.share(i)));
        row(44, "ArithmeticException if there are none");
        refuses("no language yet", x -> machine(x, OFTEN_A), AE, x -> x.meanClasses());
        refuses("no language any more", x -> { lang(x, OFTEN_A); x.drop(); }, AE, x -> x.meanClasses());
        is("one", on(x -> lang(x, NONE), x -> x.meanClasses()), 1.0);
        is("twelve", on(BoundariesTest::twelve, x -> x.meanClasses()), 2.0);
        is("thirds", on(x -> { lang(x, ONE_A); lang(x, OFTEN_A); lang(x, OFTEN_A); }, x -> x.meanClasses()), 7.0 / 3.0);
        is("100 and 1", on(x -> { lang(x, CLASSES_100); lang(x, ALL); }, x -> x.meanClasses()), 50.5);
        row(45, "Returns whether all of this holds.");
        is("an empty house", on(x -> { }, x -> x.isSound()), true);
        is("a full house", on(HelperHouse::full, x -> x.isSound()), true);
        is("100 classes", on(BoundariesTest::hundred, x -> x.isSound()), true);
        is("ten positions", on(positions(10), x -> x.isSound()), true);
        is("ten positions without ways", on(x -> { for (int i = 0; i < 10; i++) x.position(i % 2, i % 6); }, x -> x.isSound()), true);
        is("it changes nothing", on(HelperHouse::full, x -> { x.isSound(); return rowsAndNumbers(x); }), rowsAndNumbers(house(HelperHouse::full)));
    }

    /** Positions, machines, languages, rows and the text are all full; the last pairs are too many. */
    static void brimming(Wagnerhall x) {
        lang(x, APART_601_ONE);
        lang(x, APART_601_TWO);
        lang(x, JOIN_101_ONE);
        lang(x, JOIN_101_TWO);
        machine(x, CLASSES_101);
        machine(x, DEEDS_301);
        for (int i = 4; i < 12; i++) x.turn(0, 'n');
        word(x, TEN_A, TEN_B);
        text(x, THIRTY.replace('a', '!'));
        for (int i = 0; i < 10; i++) x.position(i % 2, i % 6);
    }

    static void exceptions() {
        terms("A method that throws an exception changes nothing.");
        Build empty = then(HelperHouse::some, rows("", ""));
        refuses("each exception of letters", BoundariesTest::brimming, IAE, x -> x.type('c', true), x -> x.sign('b'), x -> x.machine(5), x -> x.position(2, 0),
            x -> x.edge(5, 0, 'a', 0, 16), x -> x.cut(5, 0, 'c', 0), x -> x.accept(5, 'x', 0), x -> x.turn(0, 'x'), x -> x.join(0, 1, 'y'), x -> x.shift(0, 'c'),
            x -> x.isA(0, 'x'), x -> x.many(0, 0), x -> x.agrees(0, 0));
        refuses("each exception of what is full", BoundariesTest::brimming, ISE, x -> x.type('a', true), x -> x.sign('a'), x -> x.machine(1), x -> x.position(0, 0),
            x -> x.turn(0, 'n'), x -> x.join(0, 0, '&'), x -> x.shift(0, 'a'), x -> x.language(0));
        refuses("each exception of what is refused", BoundariesTest::brimming, UOE, x -> x.language(4), x -> x.language(5), x -> x.deeds(5), x -> x.join(0, 1, '&'),
            x -> x.join(2, 3, '&'), x -> x.isWithin(0, 1), x -> x.holds(), x -> x.agrees(0, 6));
        refuses("each exception of what is empty", empty, UOE, x -> x.takes(0), x -> x.has(0), x -> x.classOf(0), x -> x.holds());
        refuses("each exception of what is not there", BoundariesTest::brimming, NSE, x -> x.letterAt(10, true), x -> x.cut(5, 2, 'a', 2), x -> x.apart(0, 0), x -> x.move(0));
        refuses("each exception of a number", BoundariesTest::brimming, IOOBE, x -> x.edge(6, 0, 'a', 0, 0), x -> x.cut(6, 0, 'a', 0), x -> x.accept(6, 'b', 0),
            x -> x.isDeterministic(6, true), x -> x.takes(6), x -> x.deeds(6), x -> x.language(6), x -> x.turn(12, 'n'), x -> x.join(12, 0, '&'), x -> x.shift(12, 'a'),
            x -> x.has(12), x -> x.classes(12), x -> x.length(12, 0), x -> x.product(12, 0, 0), x -> x.classOf(12), x -> x.idempotents(12), x -> x.value(12, 0, 0),
            x -> x.isSame(12, 0), x -> x.isWithin(12, 0), x -> x.apart(12, 0), x -> x.isA(12, 'e'), x -> x.chain(12, true), x -> x.residuals(12), x -> x.verdict(12),
            x -> x.many(12, 1), x -> x.agrees(12, 1), x -> x.way(10, 0), x -> x.wins(10), x -> x.move(10), x -> x.share(12));

        terms("If several conditions of a method apply, the exception that is listed first is thrown.");
        refuses("type: no letter, a full row", BoundariesTest::brimming, IAE, x -> x.type('c', false), x -> x.type('A', true));
        refuses("machine: no number, 6 machines", BoundariesTest::brimming, IAE, x -> x.machine(0), x -> x.machine(5));
        refuses("edge: no machine, no letter, no marks", BoundariesTest::brimming, IOOBE, x -> x.edge(6, 0, 'c', 0, 0), x -> x.edge(6, 0, 'a', 0, 16), x -> x.edge(-1, 9, 'c', 9, -1));
        refuses("edge: no state, no letter, no marks", BoundariesTest::brimming, IOOBE, x -> x.edge(5, 3, 'c', 0, 0), x -> x.edge(5, 0, 'a', 3, 16), x -> x.edge(5, 3, 'c', 3, -1));
        refuses("cut: no machine or state, no letter", BoundariesTest::brimming, IOOBE, x -> x.cut(6, 0, 'c', 0), x -> x.cut(5, 3, 'c', 0), x -> x.cut(5, 0, 'c', -1));
        refuses("cut: no machine or state, no edge", BoundariesTest::brimming, IOOBE, x -> x.cut(-1, 2, 'a', 2), x -> x.cut(5, 3, 'a', 3));
        refuses("cut: no letter, no edge", BoundariesTest::brimming, IAE, x -> x.cut(5, 2, 'c', 2));
        refuses("accept: no machine, no way or number", BoundariesTest::brimming, IOOBE, x -> x.accept(6, 'x', 0), x -> x.accept(-1, 'm', -1), x -> x.accept(6, 'm', 65536));
        refuses("takes: no machine, no loop", empty, IOOBE, x -> x.takes(6), x -> x.takes(-1));
        refuses("language: no machine, 12 languages", BoundariesTest::brimming, IOOBE, x -> x.language(6), x -> x.language(-1));
        refuses("language: refused, 12 languages", BoundariesTest::brimming, UOE, x -> x.language(4), x -> x.language(5));
        refuses("turn: no language, no way, 12 languages", BoundariesTest::brimming, IOOBE, x -> x.turn(12, 'x'), x -> x.turn(-1, 'n'));
        refuses("turn: no language, no way", HelperHouse::some, IOOBE, x -> x.turn(6, 'x'), x -> x.turn(-1, 'N'));
        refuses("turn: no way, 12 languages", BoundariesTest::brimming, IAE, x -> x.turn(0, 'x'), x -> x.turn(11, 'N'));
        refuses("join: no language, no way, 12 languages", BoundariesTest::brimming, IOOBE, x -> x.join(12, 0, 'y'), x -> x.join(0, -1, 'y'), x -> x.join(0, 12, '&'));
        refuses("join: no language, no way", HelperHouse::some, IOOBE, x -> x.join(6, 0, 'y'), x -> x.join(0, -1, 'y'));
        refuses("join: no way, refused, 12 languages", BoundariesTest::brimming, IAE, x -> x.join(0, 1, 'y'), x -> x.join(2, 3, '-'), x -> x.join(0, 0, 'X'));
        refuses("join: no way, refused", BoundariesTest::pairs601, IAE, x -> x.join(0, 1, 'y'), x -> x.join(1, 0, 'X'));
        refuses("join: no way, too many classes", BoundariesTest::join101, IAE, x -> x.join(0, 1, 'y'));
        refuses("join: 601 pairs, 12 languages", BoundariesTest::brimming, UOE, x -> x.join(0, 1, '&'), x -> x.join(1, 0, 'x'));
        refuses("join: 101 classes, 12 languages", BoundariesTest::brimming, UOE, x -> x.join(2, 3, '&'), x -> x.join(3, 2, '&'));
        refuses("shift: no language, no letter, 12 languages", BoundariesTest::brimming, IOOBE, x -> x.shift(12, 'c'), x -> x.shift(-1, 'a'));
        refuses("shift: no language, no letter", HelperHouse::some, IOOBE, x -> x.shift(6, 'c'), x -> x.shift(-1, 'A'));
        refuses("shift: no letter, 12 languages", BoundariesTest::brimming, IAE, x -> x.shift(0, 'c'), x -> x.shift(11, 'B'));
        refuses("has: no language, no loop", empty, IOOBE, x -> x.has(6), x -> x.has(-1));
        refuses("classOf: no language, no way", empty, IOOBE, x -> x.classOf(6), x -> x.classOf(-1));
        refuses("length, product, value: no language, no class", HelperHouse::some, IOOBE, x -> x.length(6, 9), x -> x.product(6, -1, 9), x -> x.value(6, -2, -1));
        refuses("apart: no language, the same", HelperHouse::some, IOOBE, x -> x.apart(6, 6), x -> x.apart(-1, -1));
        refuses("isA: no language, no kind", HelperHouse::some, IOOBE, x -> x.isA(6, 'x'), x -> x.isA(-1, '\0'));
        refuses("many: no language, no number", HelperHouse::some, IOOBE, x -> x.many(6, 9), x -> x.many(-1, 0));
        refuses("sign: no sign, a full text", BoundariesTest::brimming, IAE, x -> x.sign('b'), x -> x.sign('A'));
        refuses("agrees: no language, no number, no formula", BoundariesTest::brimming, IOOBE, x -> x.agrees(12, 7), x -> x.agrees(-1, 6), x -> x.agrees(12, 0));
        refuses("agrees: no language, no number", HelperHouse::some, IOOBE, x -> x.agrees(6, 7), x -> x.agrees(-1, 0));
        refuses("agrees: no number, no formula", BoundariesTest::brimming, IAE, x -> x.agrees(0, 7), x -> x.agrees(11, 0));
        refuses("position: no player or colour, 10 positions", BoundariesTest::brimming, IAE, x -> x.position(2, 0), x -> x.position(0, 6), x -> x.position(-1, -1));
        refuses("move: no position, no way", BoundariesTest::brimming, IOOBE, x -> x.move(10), x -> x.move(-1));
    }

    static void calls512() {
        sentence("What it is", "An object is used for at most 512 calls after it has been made; what later calls answer is free.");
        Wagnerhall x = house(y -> machine(y, OFTEN_A));
        for (int i = 0; i < 252; i++) {
            is("language " + i, x.language(0), 0);
            is("drop " + i, x.drop(), 0);
        }
        is("call 509", x.language(0), 0);
        is("call 510", x.join(0, 0, '|'), 1);
        is("call 511", x.checksum(), sum(OFTEN_A, OFTEN_A).longValue());
        is("call 512", x.isSame(0, 1), true);
        refusedCalls();
        heavyCalls();
        edgesAndWays();
        rowsAndTexts();
    }

    static void refusedCalls() {
        Wagnerhall x = new Wagnerhall();
        x.type('a', true);
        Ask[] calls = {y -> y.type('c', true), y -> y.machine(5), y -> y.drop(), y -> y.has(0), y -> y.holds()};
        Class<?>[] due = {IAE, IAE, ISE, IOOBE, UOE};
        for (int i = 0; i < 510; i++) is("refused call " + i, answer(calls[i % 5], x), due[i % 5]);
        is("call 512 after refused ones", x.type('b', true), 2);
    }

    /** Languages of a hundred classes are made, looked at and dropped by each call of the 512. */
    static void heavyCalls() {
        Wagnerhall x = house(BoundariesTest::join100);
        for (int i = 0; i < 243; i++) {
            is("join " + i, x.join(0, 1, '&'), 2);
            is("drop " + i, x.drop(), 2);
        }
        is("a hundred classes, joined late", x.join(0, 1, '&'), 2);
        is("classes", x.classes(2), 100);
        is("call 511 at most", x.isWithin(2, 0), true);
        is("call 512 at most", x.isWithin(0, 2), false);
        Wagnerhall one = house(BoundariesTest::hundred);
        Object[] due = {one.chain(0, true), one.chain(0, false), one.residuals(0), one.isA(0, 'o'), one.many(0, 8), one.share(0), one.isSound()};
        Ask[] calls = {y -> y.chain(0, true), y -> y.chain(0, false), y -> y.residuals(0), y -> y.isA(0, 'o'), y -> y.many(0, 8), y -> y.share(0), y -> y.isSound()};
        for (int i = 0; i < 490; i++) is("call " + i + " of a hundred classes", answer(calls[i % 7], one), due[i % 7]);
    }

    static void edgesAndWays() {
        Wagnerhall x = house(BoundariesTest::twoEdges);
        for (int i = 0; i < 500; i++) is("marks " + i, x.edge(0, 0, 'a', 1, i % 16), 2);
        is("the last marks", x.cut(0, 0, 'a', 1), 499 % 16);
        is("one edge is left", x.edge(0, 1, 'b', 0, 1), 1);
        x = house(positions(10));
        for (int i = 0; i < 490; i++) is("way " + i, x.way(0, 0), i % 2 == 0);
        is("call 511 of a game", x.way(9, 9), true);
        is("call 512 of a game", x.move(9), 0);
    }

    static void rowsAndTexts() {
        Wagnerhall x = new Wagnerhall();
        x.type('b', true);
        for (int i = 0; i < 254; i++) {
            is("sign " + i, x.sign("a!&|XFGU".charAt(i % 8)), 1);
            is("erase " + i, x.erase(), 1);
        }
        is("call 510 of a text", x.sign('!'), 1);
        is("call 511 of a text", x.sign('a'), 2);
        is("call 512 of a text", x.holds(), true);
        x = new Wagnerhall();
        for (int i = 0; i < 511; i++) is("letter " + i, i % 11 == 10 ? x.wipe() : x.type(i % 2 == 0 ? 'a' : 'b', i % 3 == 0), i % 11 == 10 ? 10 : letterNumber(i));
        is("call 512 of the rows", x.wipe(), 511 % 11);
    }

    /** How many letters of the eleven calls up to this one go to the same row. */
    static int letterNumber(int call) {
        int letters = 0;
        for (int i = call - call % 11; i <= call; i++) letters += (i % 3 == 0) == (call % 3 == 0) ? 1 : 0;
        return letters;
    }
}
