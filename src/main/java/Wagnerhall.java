import java.util.Arrays;
import java.util.NoSuchElementException;

/**
 * A house of endless words. What each call does is told by the document, promise by promise.
 *
 * A row of letters is held as a number: its letters in binary behind a leading 1, a as 0 and b as 1,
 * so that rows of one length stand in the order of their letters.
 */
public final class Wagnerhall {
    private static final int EMPTY = 1;
    private static final int ROW_LETTERS = 10;
    private static final int MACHINES = 6;
    private static final int STATES = 4;
    private static final int SETS = 16;
    private static final int ALL_SETS = 0xFFFF;
    private static final int LANGUAGES = 12;
    private static final int CLASSES = 100;
    private static final int DEEDS = 300;
    private static final int PAIRS = 600;
    private static final int KINDS = 101 * 101;
    private static final int LASSO_LETTERS = 8;
    private static final int LASSOS = 4096;
    private static final int SHARE_LETTERS = 5;
    private static final int AGREE_LETTERS = 6;
    private static final int SOUND_LETTERS = 4;
    private static final int SPELLED = 512;

    private final Machine[] machines;
    private int machineCount;
    private final Language[] slots;
    private int languageCount;
    private int wayRow;
    private int loopRow;
    private final Deeds work;
    private final Pairs pairs;
    private final Turned turned;
    private final Sieve sieve;
    private final Chains chains;
    private final Lassos lassos;
    private final Formula formula;
    private final Game game;
    private final int[] spelled;
    private final int[] spelledOther;

    public Wagnerhall() {
        machines = new Machine[MACHINES];
        for (int i = 0; i < machines.length; i++) {
            machines[i] = new Machine();
        }
        // One slot more than languages: a refusal is found out before a full house is.
        slots = new Language[LANGUAGES + 1];
        for (int i = 0; i < slots.length; i++) {
            slots[i] = new Language();
        }
        machineCount = 0;
        languageCount = 0;
        wayRow = EMPTY;
        loopRow = EMPTY;
        work = new Deeds(machines[0]);
        pairs = new Pairs(slots[0]);
        turned = new Turned(slots[0]);
        sieve = new Sieve();
        chains = new Chains(slots[0]);
        lassos = new Lassos();
        formula = new Formula();
        game = new Game();
        spelled = new int[SPELLED];
        spelledOther = new int[SPELLED];
    }

    // The lasso

    public int type(char letter, boolean isLoop) throws IllegalArgumentException, IllegalStateException {
        if (!isLetter(letter)) {
            throw new IllegalArgumentException("no such letter");
        }
        int row = isLoop ? loopRow : wayRow;
        if (lettersOf(row) >= ROW_LETTERS) {
            throw new IllegalStateException("the row is full");
        }
        int longer = 2 * row + bitOf(letter);
        if (isLoop) {
            loopRow = longer;
        } else {
            wayRow = longer;
        }
        return lettersOf(longer);
    }

    public int wipe() {
        int letters = lettersOf(wayRow) + lettersOf(loopRow);
        wayRow = EMPTY;
        loopRow = EMPTY;
        return letters;
    }

    public char letterAt(int index, boolean isLoop) throws NoSuchElementException {
        int row = isLoop ? loopRow : wayRow;
        if (index < 0 || index >= lettersOf(row)) {
            throw new NoSuchElementException("no such letter");
        }
        return bitAt(row, index) == 0 ? 'a' : 'b';
    }

    // Machines

    public int machine(int states) throws IllegalArgumentException, IllegalStateException {
        if (states < 1 || states > STATES) {
            throw new IllegalArgumentException("the number of states is out of range");
        }
        if (machineCount >= MACHINES) {
            throw new IllegalStateException("there are 6 machines");
        }
        machines[machineCount].begin(states);
        machineCount++;
        return machineCount - 1;
    }

    public int edge(int machine, int from, char letter, int to, int marks)
            throws IndexOutOfBoundsException, IllegalArgumentException {
        if (!isMachine(machine) || !machines[machine].hasStates(from, to)) {
            throw new IndexOutOfBoundsException("no such machine or state");
        }
        if (!isLetter(letter) || marks < 0 || marks >= SETS) {
            throw new IllegalArgumentException("no such letter or marks");
        }
        return machines[machine].tell(from, bitOf(letter), to, marks);
    }

    public int cut(int machine, int from, char letter, int to)
            throws IndexOutOfBoundsException, IllegalArgumentException, NoSuchElementException {
        if (!isMachine(machine) || !machines[machine].hasStates(from, to)) {
            throw new IndexOutOfBoundsException("no such machine or state");
        }
        if (!isLetter(letter)) {
            throw new IllegalArgumentException("no such letter");
        }
        int marks = machines[machine].marksOf(from, bitOf(letter), to);
        if (marks < 0) {
            throw new NoSuchElementException("no such edge");
        }
        machines[machine].tell(from, bitOf(letter), to, -1);
        return marks;
    }

    public char accept(int machine, char way, int table)
            throws IndexOutOfBoundsException, IllegalArgumentException {
        if (!isMachine(machine)) {
            throw new IndexOutOfBoundsException("no such machine");
        }
        boolean isKnown = way == 'b' || way == 'c' || way == 'p' || way == 'r' || way == 's' || way == 'm';
        if (!isKnown || way == 'm' && (table < 0 || table > ALL_SETS)) {
            throw new IllegalArgumentException("no such way or table");
        }
        return machines[machine].acceptBy(way, table);
    }

    public boolean isDeterministic(int machine, boolean isWhole) throws IndexOutOfBoundsException {
        if (!isMachine(machine)) {
            throw new IndexOutOfBoundsException("no such machine");
        }
        return machines[machine].isSingle(isWhole);
    }

    public boolean takes(int machine) throws IndexOutOfBoundsException, UnsupportedOperationException {
        if (!isMachine(machine)) {
            throw new IndexOutOfBoundsException("no such machine");
        }
        if (loopRow == EMPTY) {
            throw new UnsupportedOperationException("the loop is empty");
        }
        return work.isTaken(machines[machine], wayRow, loopRow);
    }

    public int deeds(int machine) throws IndexOutOfBoundsException, UnsupportedOperationException {
        if (!isMachine(machine)) {
            throw new IndexOutOfBoundsException("no such machine");
        }
        if (!work.fill(machines[machine])) {
            throw new UnsupportedOperationException("more than 300 deeds");
        }
        return work.count;
    }

    // Languages made

    public int language(int machine)
            throws IndexOutOfBoundsException, UnsupportedOperationException, IllegalStateException {
        if (!isMachine(machine)) {
            throw new IndexOutOfBoundsException("no such machine");
        }
        if (!work.fill(machines[machine]) || !sieve.make(work, freeSlot())) {
            throw new UnsupportedOperationException("too many deeds or classes");
        }
        if (languageCount >= LANGUAGES) {
            throw new IllegalStateException("there are 12 languages");
        }
        return addSlot();
    }

    public int languages() {
        return languageCount;
    }

    public int turn(int language, char how)
            throws IndexOutOfBoundsException, IllegalArgumentException, IllegalStateException {
        if (!isLanguage(language)) {
            throw new IndexOutOfBoundsException("no such language");
        }
        if (how != 'n' && how != 'c' && how != 'l' && how != 'i') {
            throw new IllegalArgumentException("no such way to turn");
        }
        if (languageCount >= LANGUAGES) {
            throw new IllegalStateException("there are 12 languages");
        }
        turned.aim(slots[language], how, 0);
        sieve.make(turned, freeSlot());
        return addSlot();
    }

    public int join(int language, int other, char by) throws IndexOutOfBoundsException,
            IllegalArgumentException, UnsupportedOperationException, IllegalStateException {
        if (!isLanguage(language) || !isLanguage(other)) {
            throw new IndexOutOfBoundsException("no such language");
        }
        if (by != '&' && by != '|' && by != 'x') {
            throw new IllegalArgumentException("no such way to join");
        }
        if (!pairs.fill(slots[language], slots[other], by) || !sieve.make(pairs, freeSlot())) {
            throw new UnsupportedOperationException("too many pairs or classes");
        }
        if (languageCount >= LANGUAGES) {
            throw new IllegalStateException("there are 12 languages");
        }
        return addSlot();
    }

    public int shift(int language, char letter)
            throws IndexOutOfBoundsException, IllegalArgumentException, IllegalStateException {
        if (!isLanguage(language)) {
            throw new IndexOutOfBoundsException("no such language");
        }
        if (!isLetter(letter)) {
            throw new IllegalArgumentException("no such letter");
        }
        if (languageCount >= LANGUAGES) {
            throw new IllegalStateException("there are 12 languages");
        }
        turned.aim(slots[language], Turned.SHIFT, bitOf(letter));
        sieve.make(turned, freeSlot());
        return addSlot();
    }

    public int drop() throws IllegalStateException {
        if (languageCount < 1) {
            throw new IllegalStateException("there is no language");
        }
        languageCount--;
        return languageCount;
    }

    // Languages looked at

    public boolean has(int language) throws IndexOutOfBoundsException, UnsupportedOperationException {
        if (!isLanguage(language)) {
            throw new IndexOutOfBoundsException("no such language");
        }
        if (loopRow == EMPTY) {
            throw new UnsupportedOperationException("the loop is empty");
        }
        Language one = slots[language];
        return one.judge(one.follow(wayRow), one.follow(loopRow));
    }

    public int classes(int language) throws IndexOutOfBoundsException {
        if (!isLanguage(language)) {
            throw new IndexOutOfBoundsException("no such language");
        }
        return slots[language].count;
    }

    public int length(int language, int index) throws IndexOutOfBoundsException {
        if (!isClass(language, index)) {
            throw new IndexOutOfBoundsException("no such language or class");
        }
        return slots[language].sizeOf(index);
    }

    public int product(int language, int left, int right) throws IndexOutOfBoundsException {
        if (!isClass(language, left) || !isClass(language, right)) {
            throw new IndexOutOfBoundsException("no such language or class");
        }
        return slots[language].times(left, right);
    }

    public int classOf(int language) throws IndexOutOfBoundsException, UnsupportedOperationException {
        if (!isLanguage(language)) {
            throw new IndexOutOfBoundsException("no such language");
        }
        if (wayRow == EMPTY) {
            throw new UnsupportedOperationException("the way is empty");
        }
        return slots[language].follow(wayRow);
    }

    public int idempotents(int language) throws IndexOutOfBoundsException {
        if (!isLanguage(language)) {
            throw new IndexOutOfBoundsException("no such language");
        }
        Language one = slots[language];
        int squares = 0;
        for (int x = 0; x < one.count; x++) {
            if (one.powerOf(x) == x) {
                squares++;
            }
        }
        return squares;
    }

    public boolean value(int language, int index, int loop) throws IndexOutOfBoundsException {
        if (!isClass(language, loop) || index != -1 && !isClass(language, index)) {
            throw new IndexOutOfBoundsException("no such language or class");
        }
        return slots[language].judge(index, loop);
    }

    public boolean isSame(int language, int other) throws IndexOutOfBoundsException {
        if (!isLanguage(language) || !isLanguage(other)) {
            throw new IndexOutOfBoundsException("no such language");
        }
        return slots[language].isLike(slots[other]);
    }

    public boolean isWithin(int language, int other)
            throws IndexOutOfBoundsException, UnsupportedOperationException {
        if (!isLanguage(language) || !isLanguage(other)) {
            throw new IndexOutOfBoundsException("no such language");
        }
        if (!pairs.fill(slots[language], slots[other], Pairs.WITHOUT)) {
            throw new UnsupportedOperationException("more than 600 pairs");
        }
        return !pairs.isAnyIn();
    }

    public int apart(int language, int other) throws IndexOutOfBoundsException, NoSuchElementException {
        if (!isLanguage(language) || !isLanguage(other)) {
            throw new IndexOutOfBoundsException("no such language");
        }
        if (!findApart(slots[language], slots[other])) {
            throw new NoSuchElementException("no lasso with up to 8 letters");
        }
        wayRow = lassos.front;
        loopRow = lassos.round;
        return lassos.total;
    }

    public boolean isA(int language, char kind) throws IndexOutOfBoundsException, IllegalArgumentException {
        if (!isLanguage(language)) {
            throw new IndexOutOfBoundsException("no such language");
        }
        Language one = slots[language];
        switch (kind) {
            case 'e': return !one.isAnyValue(true);
            case 'u': return !one.isAnyValue(false);
            case 'o': return one.isTurnedItself('i', 0);
            case 'c': return one.isTurnedItself('c', 0);
            case 'd': return one.isDense();
            case 'g': return chains.longest(one, true) < 2;
            case 'f': return chains.longest(one, false) < 2;
            case 'a': return one.isAperiodic();
            case 'k': return one.behind(one.behind(-1, 0), 1) == one.behind(one.behind(-1, 1), 0);
            case 'p': return one.isTurnedItself(Turned.SHIFT, 0) && one.isTurnedItself(Turned.SHIFT, 1);
            default: throw new IllegalArgumentException("no such kind");
        }
    }

    public int chain(int language, boolean isIn) throws IndexOutOfBoundsException {
        if (!isLanguage(language)) {
            throw new IndexOutOfBoundsException("no such language");
        }
        return chains.longest(slots[language], isIn);
    }

    public int residuals(int language) throws IndexOutOfBoundsException {
        if (!isLanguage(language)) {
            throw new IndexOutOfBoundsException("no such language");
        }
        return sieve.countResiduals(slots[language]);
    }

    public char verdict(int language) throws IndexOutOfBoundsException {
        if (!isLanguage(language)) {
            throw new IndexOutOfBoundsException("no such language");
        }
        Language one = slots[language];
        int begun = one.follow(wayRow);
        if (!one.canMiss(begun)) {
            return '+';
        }
        return one.canMeet(begun) ? '?' : '-';
    }

    public int many(int language, int letters) throws IndexOutOfBoundsException, IllegalArgumentException {
        if (!isLanguage(language)) {
            throw new IndexOutOfBoundsException("no such language");
        }
        if (letters < 1 || letters > LASSO_LETTERS) {
            throw new IllegalArgumentException("the number of letters is out of range");
        }
        return countIn(slots[language], letters);
    }

    // Formulas

    public int sign(char sign) throws IllegalArgumentException, IllegalStateException {
        if (Formula.partsOf(sign) < 0) {
            throw new IllegalArgumentException("no such sign");
        }
        if (formula.isFull()) {
            throw new IllegalStateException("the text has 30 signs");
        }
        return formula.append(sign);
    }

    public int erase() {
        return formula.clear();
    }

    public boolean holds() throws UnsupportedOperationException {
        if (!formula.isWhole() || loopRow == EMPTY) {
            throw new UnsupportedOperationException("no formula or no loop");
        }
        return formula.isTrueOf(wayRow, loopRow);
    }

    public int agrees(int language, int letters)
            throws IndexOutOfBoundsException, IllegalArgumentException, UnsupportedOperationException {
        if (!isLanguage(language)) {
            throw new IndexOutOfBoundsException("no such language");
        }
        if (letters < 1 || letters > AGREE_LETTERS) {
            throw new IllegalArgumentException("the number of letters is out of range");
        }
        if (!formula.isWhole()) {
            throw new UnsupportedOperationException("the text is no formula");
        }
        return countAgreed(slots[language], letters);
    }

    // Games

    public int position(int player, int colour) throws IllegalArgumentException, IllegalStateException {
        if (player < 0 || player > 1 || colour < 0 || colour >= Game.COLOURS) {
            throw new IllegalArgumentException("no such player or colour");
        }
        if (game.isFull()) {
            throw new IllegalStateException("there are 10 positions");
        }
        return game.add(player, colour);
    }

    public boolean way(int from, int to) throws IndexOutOfBoundsException {
        if (!game.isPosition(from) || !game.isPosition(to)) {
            throw new IndexOutOfBoundsException("no such position");
        }
        return game.toggle(from, to);
    }

    public boolean wins(int position) throws IndexOutOfBoundsException {
        if (!game.isPosition(position)) {
            throw new IndexOutOfBoundsException("no such position");
        }
        return (game.winning() >> position & 1) == 1;
    }

    public int move(int position) throws IndexOutOfBoundsException, NoSuchElementException {
        if (!game.isPosition(position)) {
            throw new IndexOutOfBoundsException("no such position");
        }
        int to = game.keeping(position, game.winning());
        if (to < 0) {
            throw new NoSuchElementException("who is at the position loses");
        }
        return to;
    }

    public int won() {
        return Integer.bitCount(game.winning());
    }

    // The whole house

    public long checksum() {
        long sum = 7;
        for (int i = 0; i < languageCount && i < slots.length; i++) {
            sum = slots[i].addTo(sum);
        }
        return sum;
    }

    public float share(int language) throws IndexOutOfBoundsException {
        if (!isLanguage(language)) {
            throw new IndexOutOfBoundsException("no such language");
        }
        int all = 0;
        for (int letters = 1; letters <= SHARE_LETTERS; letters++) {
            all += letters << letters;
        }
        return (float) countIn(slots[language], SHARE_LETTERS) / (float) all;
    }

    public double meanClasses() throws ArithmeticException {
        if (languageCount < 1) {
            throw new ArithmeticException("there are no languages");
        }
        int sum = 0;
        for (int i = 0; i < languageCount && i < slots.length; i++) {
            sum += slots[i].count;
        }
        return (double) sum / (double) languageCount;
    }

    public boolean isSound() {
        for (int i = 0; i < languageCount && i < slots.length; i++) {
            if (!slots[i].hasFirstWords() || !isParted(slots[i])) {
                return false;
            }
        }
        return game.isKept();
    }

    // What the face has in common

    private static boolean isLetter(char letter) {
        return letter == 'a' || letter == 'b';
    }

    private static int bitOf(char letter) {
        return letter == 'b' ? 1 : 0;
    }

    private static int lettersOf(int row) {
        return 31 - Integer.numberOfLeadingZeros(row);
    }

    private static int bitAt(int row, int index) {
        return row >> (lettersOf(row) - 1 - index) & 1;
    }

    private boolean isMachine(int number) {
        return number >= 0 && number < machineCount && number < machines.length;
    }

    private boolean isLanguage(int number) {
        return number >= 0 && number < languageCount && number < slots.length;
    }

    private boolean isClass(int number, int index) {
        return isLanguage(number) && index >= 0 && index < slots[number].count;
    }

    /** Where the next language is made; there is one slot more than languages. */
    private Language freeSlot() {
        return slots[Math.min(languageCount, LANGUAGES)];
    }

    private int addSlot() {
        languageCount++;
        return languageCount - 1;
    }

    private static int classAt(int[] classes, int row) {
        return row >= 0 && row < classes.length ? classes[row] : -1;
    }

    /** Whether the lasso that is looked at is in the language, of which the classes of rows are told. */
    private boolean isCurrentIn(Language one, int[] classes) {
        return one.judge(classAt(classes, lassos.front), classAt(classes, lassos.round));
    }

    private boolean findApart(Language one, Language two) {
        one.spell(spelled, LASSO_LETTERS);
        two.spell(spelledOther, LASSO_LETTERS);
        lassos.begin();
        for (int i = 0; i < LASSOS && lassos.advance(LASSO_LETTERS); i++) {
            if (isCurrentIn(one, spelled) != isCurrentIn(two, spelledOther)) {
                return true;
            }
        }
        return false;
    }

    private int countIn(Language one, int letters) {
        one.spell(spelled, letters);
        lassos.begin();
        int in = 0;
        for (int i = 0; i < LASSOS && lassos.advance(letters); i++) {
            if (isCurrentIn(one, spelled)) {
                in++;
            }
        }
        return in;
    }

    private int countAgreed(Language one, int letters) {
        one.spell(spelled, letters);
        lassos.begin();
        int agreed = 0;
        for (int i = 0; i < LASSOS && lassos.advance(letters); i++) {
            if (isCurrentIn(one, spelled) == formula.isTrueOf(lassos.front, lassos.round)) {
                agreed++;
            }
        }
        return agreed;
    }

    private boolean isParted(Language one) {
        one.spell(spelled, SOUND_LETTERS);
        lassos.begin();
        for (int i = 0; i < LASSOS && lassos.advance(SOUND_LETTERS); i++) {
            int x = classAt(spelled, lassos.front);
            int t = classAt(spelled, lassos.round);
            boolean isIn = one.judge(x, t);
            boolean isSafe = one.judgeTurned('c', 0, x, t);
            boolean isCommon = isSafe && one.judgeTurned('l', 0, x, t);
            if (isIn == one.judgeTurned('n', 0, x, t) || isIn && !isSafe || isIn != isCommon) {
                return false;
            }
        }
        return true;
    }

    /** States, their edges and how sets of marks are accepted. */
    private static final class Machine {
        private final int[] marks = new int[STATES * 2 * STATES];
        private int states;
        private int edges;
        private char how;
        private int table;

        void begin(int newStates) {
            Arrays.fill(marks, -1);
            states = newStates;
            edges = 0;
            how = 'b';
            table = 0;
        }

        boolean hasStates(int from, int to) {
            return from >= 0 && from < states && to >= 0 && to < states;
        }

        /** The marks of an edge, -1 if there is none. */
        int marksOf(int from, int letter, int to) {
            int at = (from * 2 + letter) * STATES + to;
            return at >= 0 && at < marks.length ? marks[at] : -1;
        }

        /** Sets the marks of an edge, or with -1 takes it away. */
        int tell(int from, int letter, int to, int newMarks) {
            int at = (from * 2 + letter) * STATES + to;
            if (at >= 0 && at < marks.length) {
                if (marks[at] >= 0) {
                    edges--;
                }
                if (newMarks >= 0) {
                    edges++;
                }
                marks[at] = newMarks;
            }
            return edges;
        }

        char acceptBy(char newHow, int newTable) {
            char before = how;
            how = newHow;
            table = newTable;
            return before;
        }

        boolean isSingle(boolean isWhole) {
            for (int from = 0; from < states; from++) {
                for (int letter = 0; letter < 2; letter++) {
                    int ways = 0;
                    for (int to = 0; to < states; to++) {
                        if (marksOf(from, letter, to) >= 0) {
                            ways++;
                        }
                    }
                    if (ways > 1 || isWhole && ways == 0) {
                        return false;
                    }
                }
            }
            return true;
        }

        /** All sets of marks that are accepted, each as a bit. */
        int acceptedSets() {
            int accepted = 0;
            for (int set = 0; set < SETS; set++) {
                if (isAccepted(set)) {
                    accepted |= 1 << set;
                }
            }
            return accepted;
        }

        private boolean isAccepted(int set) {
            boolean has0 = (set & 1) != 0;
            boolean has1 = (set & 2) != 0;
            boolean has2 = (set & 4) != 0;
            boolean has3 = (set & 8) != 0;
            switch (how) {
                case 'b': return has0;
                case 'c': return !has0;
                case 'p': return !has3 && (has2 || has0 && !has1);
                case 'r': return has1 && !has0 || has3 && !has2;
                case 's': return (has1 || !has0) && (has3 || !has2);
                default: return (table >> set & 1) == 1;
            }
        }
    }

    /**
     * Finitely many classes of words that multiply, each with its first word, in the order of these,
     * and the verdict on a word of a class (-1 for no word) and then a loop of words of another.
     */
    private abstract static class Words {
        int count;
        private final int[] next;
        private final int[] prior;
        private final int[] parent;
        private final int[] last;
        private final int[] size;

        Words(int most) {
            next = new int[2 * (most + 1)];
            prior = new int[2 * (most + 1)];
            parent = new int[most];
            last = new int[most];
            size = new int[most];
            count = 0;
        }

        abstract boolean judge(int x, int t);

        /** Two words of one kind are judged alike before every loop; 0 to 10200. */
        abstract int wayKind(int x);

        /** Two loops of one kind are judged alike behind every word; 0 to 10200. */
        abstract int loopKind(int t);

        final int behind(int x, int letter) {
            int at = 2 * (x + 1) + letter;
            return at >= 0 && at < next.length ? next[at] : 0;
        }

        final int ahead(int letter, int x) {
            int at = 2 * (x + 1) + letter;
            return at >= 0 && at < prior.length ? prior[at] : 0;
        }

        final int parentOf(int x) {
            return x >= 0 && x < parent.length ? parent[x] : -1;
        }

        final int lastOf(int x) {
            return x >= 0 && x < last.length ? last[x] : 0;
        }

        final int sizeOf(int x) {
            return x >= 0 && x < size.length ? size[x] : 0;
        }

        final void link(int x, int letter, int to) {
            int at = 2 * (x + 1) + letter;
            if (at >= 0 && at < next.length) {
                next[at] = to;
            }
        }

        /** Adds a class with the first word of x and then the letter. */
        final void adopt(int x, int letter) {
            if (count < parent.length) {
                parent[count] = x;
                last[count] = letter;
                size[count] = sizeOf(x) + 1;
                count++;
            }
        }

        /** Finds what a letter ahead makes of each class, when all links behind are told. */
        final void linkAhead() {
            for (int x = -1; x < count; x++) {
                for (int letter = 0; letter < 2; letter++) {
                    int at = 2 * (x + 1) + letter;
                    if (at >= 0 && at < prior.length) {
                        prior[at] = x < 0 ? behind(-1, letter) : behind(ahead(letter, parentOf(x)), lastOf(x));
                    }
                }
            }
        }

        final void copyWords(Words other) {
            count = Math.min(other.count, parent.length);
            for (int x = -1; x < count; x++) {
                for (int letter = 0; letter < 2; letter++) {
                    link(x, letter, other.behind(x, letter));
                }
                if (x >= 0) {
                    parent[x] = other.parentOf(x);
                    last[x] = other.lastOf(x);
                    size[x] = other.sizeOf(x);
                }
            }
            linkAhead();
        }

        /** The product of two classes, either of which may be no word. */
        final int times(int x, int y) {
            int made = y;
            int left = x;
            for (int i = 0; i <= count && left >= 0; i++) {
                made = ahead(lastOf(left), made);
                left = parentOf(left);
            }
            return made;
        }

        final int idempotentPower(int x) {
            int power = x;
            for (int i = 0; i <= count && times(power, power) != power; i++) {
                power = times(power, x);
            }
            return power;
        }

        final int follow(int row) {
            int x = -1;
            int letters = lettersOf(row);
            for (int i = 0; i < letters; i++) {
                x = behind(x, bitAt(row, i));
            }
            return x;
        }

        /** Puts the class of each row with up to some letters at the place of the row. */
        final void spell(int[] into, int letters) {
            int rows = Math.min(2 << letters, into.length);
            for (int row = EMPTY; row < rows; row++) {
                into[row] = row == EMPTY ? -1 : behind(into[row >> 1], row & 1);
            }
        }
    }

    /** The deeds of words in a machine: for each two states the sets of marks of runs, as bits of a sixteenth. */
    private static final class Deeds extends Words {
        private final long[] rows = new long[STATES * (DEEDS + 2)];
        private final int[] reached = new int[DEEDS + 1];
        private final int[] good = new int[DEEDS];
        private final long[] step = new long[STATES];
        private Machine machine;
        private int accepted;

        Deeds(Machine first) {
            super(DEEDS);
            machine = first;
            accepted = 0;
        }

        /** Finds all deeds; not if there are more than are allowed. */
        boolean fill(Machine newMachine) {
            start(newMachine);
            for (int x = -1; x < count && x < DEEDS; x++) {
                for (int letter = 0; letter < 2; letter++) {
                    makeStep(x, letter);
                    int found = find();
                    if (found == count) {
                        if (count >= DEEDS) {
                            return false;
                        }
                        adopt(x, letter);
                        keepStep(found);
                    }
                    link(x, letter, found);
                }
            }
            linkAhead();
            for (int x = -1; x < count; x++) {
                judgeDeed(x);
            }
            return true;
        }

        private void start(Machine newMachine) {
            machine = newMachine;
            accepted = newMachine.acceptedSets();
            count = 0;
            for (int p = 0; p < STATES; p++) {
                step[p] = p < machine.states ? 1L << (SETS * p) : 0L;
            }
            keepStep(-1);
        }

        private void keepStep(int x) {
            int at = STATES * (x + 1);
            for (int p = 0; p < STATES && at + p < rows.length; p++) {
                rows[at + p] = step[p];
            }
        }

        private long rowOf(int x, int p) {
            int at = STATES * (x + 1) + p;
            return at >= 0 && at < rows.length ? rows[at] : 0L;
        }

        private void makeStep(int x, int letter) {
            for (int p = 0; p < STATES; p++) {
                long row = rowOf(x, p);
                long made = 0L;
                for (int from = 0; from < machine.states && row != 0L; from++) {
                    int family = familyOf(row, from);
                    for (int to = 0; to < machine.states && family != 0; to++) {
                        int marks = machine.marksOf(from, letter, to);
                        if (marks >= 0) {
                            made |= (long) marked(family, marks) << (SETS * to);
                        }
                    }
                }
                step[p] = made;
            }
        }

        private int find() {
            for (int x = 0; x < count; x++) {
                if (rowOf(x, 0) == step[0] && rowOf(x, 1) == step[1]
                        && rowOf(x, 2) == step[2] && rowOf(x, 3) == step[3]) {
                    return x;
                }
            }
            return count;
        }

        private void judgeDeed(int x) {
            reached[x + 1] = statesOf(rowOf(x, 0));
            if (x >= 0) {
                int power = idempotentPower(x);
                for (int p = 0; p < STATES; p++) {
                    step[p] = rowOf(power, p);
                }
                good[x] = goodStates();
            }
        }

        /** The states from which the deed in step, which is its own square, can go round for ever accepted. */
        private int goodStates() {
            int centres = 0;
            for (int p = 0; p < STATES; p++) {
                if ((familyOf(step[p], p) & accepted) != 0) {
                    centres |= 1 << p;
                }
            }
            int found = 0;
            for (int p = 0; p < STATES; p++) {
                if ((statesOf(step[p]) & centres) != 0) {
                    found |= 1 << p;
                }
            }
            return found;
        }

        /** Judges one lasso without making all deeds, of which there may be too many. */
        boolean isTaken(Machine newMachine, int way, int loop) {
            start(newMachine);
            walk(way);
            int reachedStates = statesOf(step[0]);
            start(newMachine);
            walk(loop);
            boolean isGrowing = true;
            for (int i = 0; i < STATES * STATES * SETS && isGrowing; i++) {
                isGrowing = addSquare();
            }
            return (reachedStates & goodStates()) != 0;
        }

        private void walk(int row) {
            int letters = lettersOf(row);
            for (int i = 0; i < letters; i++) {
                makeStep(-1, bitAt(row, i));
                keepStep(-1);
            }
        }

        private boolean addSquare() {
            boolean isMore = false;
            for (int p = 0; p < STATES; p++) {
                long before = step[p];
                long made = before;
                for (int q = 0; q < STATES; q++) {
                    int family = familyOf(before, q);
                    for (int set = 0; set < SETS; set++) {
                        if ((family >> set & 1) == 1) {
                            made |= markedRow(step[q], set);
                        }
                    }
                }
                step[p] = made;
                isMore = isMore || made != before;
            }
            return isMore;
        }

        private static long markedRow(long row, int marks) {
            long made = 0L;
            for (int q = 0; q < STATES; q++) {
                made |= (long) marked(familyOf(row, q), marks) << (SETS * q);
            }
            return made;
        }

        private static int familyOf(long row, int state) {
            return (int) (row >>> (SETS * state)) & ALL_SETS;
        }

        private static int statesOf(long row) {
            int states = 0;
            for (int q = 0; q < STATES; q++) {
                if (familyOf(row, q) != 0) {
                    states |= 1 << q;
                }
            }
            return states;
        }

        /** All sets of a family, each with the marks put in. */
        private static int marked(int family, int marks) {
            int made = family;
            if ((marks & 1) != 0) {
                made = made & 0xAAAA | (made & 0x5555) << 1;
            }
            if ((marks & 2) != 0) {
                made = made & 0xCCCC | (made & 0x3333) << 2;
            }
            if ((marks & 4) != 0) {
                made = made & 0xF0F0 | (made & 0x0F0F) << 4;
            }
            if ((marks & 8) != 0) {
                made = made & 0xFF00 | (made & 0x00FF) << 8;
            }
            return made;
        }

        boolean judge(int x, int t) {
            return (wayKind(x) & loopKind(t)) != 0;
        }

        int wayKind(int x) {
            return x >= -1 && x + 1 < reached.length ? reached[x + 1] : 0;
        }

        int loopKind(int t) {
            return t >= 0 && t < good.length ? good[t] : 0;
        }
    }

    /** The pairs of classes that words have in two languages, judged by both verdicts. */
    private static final class Pairs extends Words {
        static final char WITHOUT = '-';

        private final int[] number = new int[CLASSES * CLASSES];
        private final int[] left = new int[PAIRS];
        private final int[] right = new int[PAIRS];
        private Language one;
        private Language two;
        private char by;

        Pairs(Language first) {
            super(PAIRS);
            one = first;
            two = first;
            by = WITHOUT;
        }

        /** Finds all pairs; not if there are more than are allowed. */
        boolean fill(Language newOne, Language newTwo, char newBy) {
            one = newOne;
            two = newTwo;
            by = newBy;
            count = 0;
            Arrays.fill(number, -1);
            for (int x = -1; x < count && x < PAIRS; x++) {
                for (int letter = 0; letter < 2; letter++) {
                    int i = one.behind(leftOf(x), letter);
                    int j = two.behind(rightOf(x), letter);
                    int found = i * CLASSES + j;
                    if (found < 0 || found >= number.length) {
                        return false;
                    }
                    if (number[found] < 0) {
                        if (count >= PAIRS) {
                            return false;
                        }
                        number[found] = count;
                        left[count] = i;
                        right[count] = j;
                        adopt(x, letter);
                    }
                    link(x, letter, number[found]);
                }
            }
            linkAhead();
            return true;
        }

        private int leftOf(int x) {
            return x >= 0 && x < left.length ? left[x] : -1;
        }

        private int rightOf(int x) {
            return x >= 0 && x < right.length ? right[x] : -1;
        }

        boolean isAnyIn() {
            for (int x = -1; x < count; x++) {
                for (int t = 0; t < count; t++) {
                    if (judge(x, t)) {
                        return true;
                    }
                }
            }
            return false;
        }

        boolean judge(int x, int t) {
            boolean isInOne = one.judge(leftOf(x), leftOf(t));
            boolean isInTwo = two.judge(rightOf(x), rightOf(t));
            switch (by) {
                case '&': return isInOne && isInTwo;
                case '|': return isInOne || isInTwo;
                case 'x': return isInOne != isInTwo;
                default: return isInOne && !isInTwo;
            }
        }

        int wayKind(int x) {
            return one.wayKind(leftOf(x)) * (CLASSES + 1) + two.wayKind(rightOf(x));
        }

        int loopKind(int t) {
            return one.loopKind(leftOf(t)) * (CLASSES + 1) + two.loopKind(rightOf(t));
        }
    }

    /** The classes of a language, judged as it is turned or shifted. */
    private static final class Turned extends Words {
        static final char SHIFT = 's';

        private Language one;
        private char how;
        private int letter;

        Turned(Language first) {
            super(CLASSES);
            one = first;
            how = SHIFT;
            letter = 0;
        }

        void aim(Language newOne, char newHow, int newLetter) {
            one = newOne;
            how = newHow;
            letter = newLetter;
            copyWords(newOne);
        }

        boolean judge(int x, int t) {
            return one.judgeTurned(how, letter, x, t);
        }

        int wayKind(int x) {
            return x + 1;
        }

        int loopKind(int t) {
            return t;
        }
    }

    /** A language by its classes and its verdicts on these. */
    private static final class Language extends Words {
        private final long[] rows = new long[2 * (CLASSES + 1)];
        private final long[] columns = new long[2 * CLASSES];
        private final int[] wayKinds = new int[CLASSES + 1];
        private final int[] loopKinds = new int[CLASSES];
        private final int[] powers = new int[CLASSES];
        private final boolean[] meets = new boolean[CLASSES + 1];
        private final boolean[] misses = new boolean[CLASSES + 1];

        Language() {
            super(CLASSES);
        }

        /** Puts the verdict on a pair of classes, when all were taken back before. */
        void put(int x, int t) {
            if (x >= -1 && x < count && t >= 0 && t < count) {
                rows[2 * (x + 1) + (t >> 6)] |= 1L << (t & 63);
                columns[2 * t + (x + 1 >> 6)] |= 1L << (x + 1 & 63);
            }
        }

        void takeBack() {
            count = 0;
            Arrays.fill(rows, 0L);
            Arrays.fill(columns, 0L);
        }

        /** Finds what follows from the links and verdicts, when all of them are told. */
        void finish() {
            linkAhead();
            for (int x = -1; x < count; x++) {
                wayKinds[x + 1] = firstLike(rows, x + 1);
            }
            for (int t = 0; t < count; t++) {
                loopKinds[t] = firstLike(columns, t);
                powers[t] = idempotentPower(t);
            }
            for (int x = -1; x < count; x++) {
                meets[x + 1] = isInRow(x, true);
                misses[x + 1] = isInRow(x, false);
            }
            inherit(meets);
            inherit(misses);
        }

        private static int firstLike(long[] lines, int at) {
            for (int i = 0; i < at; i++) {
                if (lines[2 * i] == lines[2 * at] && lines[2 * i + 1] == lines[2 * at + 1]) {
                    return i;
                }
            }
            return at;
        }

        private boolean isInRow(int x, boolean isIn) {
            for (int t = 0; t < count; t++) {
                if (judge(x, t) == isIn) {
                    return true;
                }
            }
            return false;
        }

        /** What can come of a longer word can come of its beginning. */
        private void inherit(boolean[] comes) {
            boolean isGrowing = true;
            for (int i = 0; i <= CLASSES && isGrowing; i++) {
                isGrowing = false;
                for (int x = count - 1; x >= -1; x--) {
                    boolean isComing = isSet(comes, behind(x, 0)) || isSet(comes, behind(x, 1));
                    if (isComing && !isSet(comes, x)) {
                        comes[x + 1] = true;
                        isGrowing = true;
                    }
                }
            }
        }

        boolean judge(int x, int t) {
            int at = 2 * (x + 1) + (t >> 6);
            return t >= 0 && at >= 0 && at < rows.length && (rows[at] >>> (t & 63) & 1L) == 1L;
        }

        int wayKind(int x) {
            return x >= -1 && x + 1 < wayKinds.length ? wayKinds[x + 1] : 0;
        }

        int loopKind(int t) {
            return t >= 0 && t < loopKinds.length ? loopKinds[t] : 0;
        }

        int powerOf(int x) {
            return x >= 0 && x < powers.length ? powers[x] : 0;
        }

        private static boolean isSet(boolean[] marks, int x) {
            return x >= -1 && x + 1 < marks.length && marks[x + 1];
        }

        /** Whether some word of the language begins with this one. */
        boolean canMeet(int x) {
            return isSet(meets, x);
        }

        /** Whether some word outside of the language begins with this one. */
        boolean canMiss(int x) {
            return isSet(misses, x);
        }

        /** The verdict of the turned or shifted language. */
        boolean judgeTurned(char how, int letter, int x, int t) {
            switch (how) {
                case 'n': return !judge(x, t);
                case 'c': return canMeet(times(x, powerOf(t)));
                case 'l': return judge(x, t) || !canMeet(times(x, powerOf(t)));
                case 'i': return !canMiss(times(x, powerOf(t)));
                default: return judge(ahead(letter, x), t);
            }
        }

        boolean isTurnedItself(char how, int letter) {
            for (int x = -1; x < count; x++) {
                for (int t = 0; t < count; t++) {
                    if (judge(x, t) != judgeTurned(how, letter, x, t)) {
                        return false;
                    }
                }
            }
            return true;
        }

        boolean isAnyValue(boolean isIn) {
            return isIn ? canMeet(-1) : canMiss(-1);
        }

        boolean isDense() {
            for (int x = -1; x < count; x++) {
                if (!canMeet(x)) {
                    return false;
                }
            }
            return true;
        }

        boolean isAperiodic() {
            for (int x = 0; x < count; x++) {
                if (times(x, powerOf(x)) != powerOf(x)) {
                    return false;
                }
            }
            return true;
        }

        boolean isLike(Language other) {
            if (count != other.count) {
                return false;
            }
            for (int x = -1; x < count; x++) {
                if (behind(x, 0) != other.behind(x, 0) || behind(x, 1) != other.behind(x, 1)) {
                    return false;
                }
            }
            for (int i = 0; i < rows.length; i++) {
                if (rows[i] != other.rows[i]) {
                    return false;
                }
            }
            return true;
        }

        /** Whether the first word of each class leads to this class. */
        boolean hasFirstWords() {
            for (int x = 0; x < count; x++) {
                int read = behind(parentOf(x), lastOf(x));
                if (read != x || parentOf(x) >= x || times(x, -1) != x) {
                    return false;
                }
            }
            return true;
        }

        long addTo(long sum) {
            long longer = sum;
            int in = 0;
            for (int x = 0; x < count; x++) {
                longer = 31 * longer + behind(x, 0);
                longer = 31 * longer + behind(x, 1);
                in += Long.bitCount(rows[2 * (x + 1)]) + Long.bitCount(rows[2 * (x + 1) + 1]);
            }
            return 31 * longer + in;
        }
    }

    /** Parts words into the classes that no surrounding tells apart. */
    private static final class Sieve {
        private final int[] number = new int[KINDS];
        private final int[] keyStamp = new int[KINDS];
        private final int[] kindStamp = new int[KINDS];
        private final int[] block = new int[PAIRS];
        private final int[] tag = new int[PAIRS];
        private final int[] first = new int[CLASSES];
        private int items;
        private int blocks;
        private int keyRound;
        private int kindRound;

        /** Makes the language that the verdicts tell; not if it has too many classes. */
        boolean make(Words source, Language into) {
            begin(source.count);
            if (!splitByLoops(source) || !splitByWays(source) || !refine(source)) {
                return false;
            }
            write(source, into);
            return true;
        }

        private void begin(int newItems) {
            items = Math.min(newItems, block.length);
            Arrays.fill(block, 0);
            blocks = 1;
        }

        private boolean splitByLoops(Words source) {
            kindRound++;
            for (int t = 0; t < items; t++) {
                if (isNewKind(source.loopKind(t))) {
                    for (int i = 0; i < items; i++) {
                        tag[i] = source.judge(i, t) ? 1 : 0;
                    }
                    divide();
                    if (blocks > CLASSES) {
                        return false;
                    }
                }
            }
            return true;
        }

        private boolean splitByWays(Words source) {
            kindRound++;
            for (int x = -1; x < items; x++) {
                if (isNewKind(source.wayKind(x))) {
                    for (int i = 0; i < items; i++) {
                        tag[i] = source.judge(x, i) ? 1 : 0;
                    }
                    divide();
                    if (blocks > CLASSES) {
                        return false;
                    }
                }
            }
            return true;
        }

        /** Splits until a letter behind or ahead leads from each block to one block. */
        private boolean refine(Words source) {
            int before = 0;
            for (int round = 0; round <= CLASSES && before < blocks; round++) {
                before = blocks;
                for (int side = 0; side < 4; side++) {
                    for (int i = 0; i < items; i++) {
                        int to = side < 2 ? source.behind(i, side) : source.ahead(side - 2, i);
                        tag[i] = blockOf(to);
                    }
                    divide();
                    if (blocks > CLASSES) {
                        return false;
                    }
                }
            }
            return true;
        }

        private int blockOf(int item) {
            return item >= 0 && item < items ? block[item] : -1;
        }

        private boolean isNewKind(int kind) {
            if (kind < 0 || kind >= kindStamp.length || kindStamp[kind] == kindRound) {
                return false;
            }
            kindStamp[kind] = kindRound;
            return true;
        }

        /** Splits the blocks by the tags, and numbers them by their first items. */
        private void divide() {
            keyRound++;
            blocks = 0;
            for (int i = 0; i < items; i++) {
                int key = block[i] * (CLASSES + 1) + tag[i];
                if (key >= 0 && key < number.length) {
                    if (keyStamp[key] != keyRound) {
                        keyStamp[key] = keyRound;
                        number[key] = blocks;
                        blocks++;
                    }
                    block[i] = number[key];
                }
            }
        }

        private void write(Words source, Language into) {
            into.takeBack();
            for (int i = 0; i < items && into.count < first.length; i++) {
                if (block[i] == into.count) {
                    first[into.count] = i;
                    into.adopt(blockOf(source.parentOf(i)), source.lastOf(i));
                }
            }
            for (int x = -1; x < into.count; x++) {
                int word = x < 0 ? -1 : first[x];
                for (int letter = 0; letter < 2; letter++) {
                    into.link(x, letter, blockOf(source.behind(word, letter)));
                }
                for (int t = 0; t < into.count; t++) {
                    if (source.judge(word, first[t])) {
                        into.put(x, t);
                    }
                }
            }
            into.finish();
        }

        /** Counts what remains behind words; the item 0 is no word, the item x + 1 the class x. */
        int countResiduals(Language one) {
            begin(one.count + 1);
            for (int i = 0; i < items; i++) {
                tag[i] = one.wayKind(i - 1);
            }
            divide();
            int before = 0;
            for (int round = 0; round <= CLASSES && before < blocks; round++) {
                before = blocks;
                for (int letter = 0; letter < 2; letter++) {
                    for (int i = 0; i < items; i++) {
                        tag[i] = blockOf(one.behind(i - 1, letter) + 1);
                    }
                    divide();
                }
            }
            return blocks;
        }
    }

    /** The rows of alternating loops of a language. */
    private static final class Chains {
        private final int[] table = new int[CLASSES * CLASSES];
        private final int[] stay = new int[CLASSES];
        private final int[] loops = new int[CLASSES];
        private final int[] lengths = new int[CLASSES];
        private final long[] stayBits = new long[2 * CLASSES];
        private Language one;
        private int stays;
        private int loopCount;

        Chains(Language first) {
            one = first;
            stays = 0;
            loopCount = 0;
        }

        int longest(Language newOne, boolean isIn) {
            one = newOne;
            multiply();
            int most = 0;
            for (int place = 0; place < one.count; place++) {
                list(place);
                if (loopCount > 0 && !isLikeEarlier(place)) {
                    most = Math.max(most, longestAt(place, isIn));
                }
            }
            return most;
        }

        private void multiply() {
            for (int x = 0; x < one.count; x++) {
                for (int y = 0; y < one.count; y++) {
                    int before = one.parentOf(y) < 0 ? x : productOf(x, one.parentOf(y));
                    table[x * CLASSES + y] = one.behind(before, one.lastOf(y));
                }
            }
        }

        private int productOf(int x, int y) {
            int at = x * CLASSES + y;
            return at >= 0 && at < table.length ? table[at] : 0;
        }

        /** Lists the classes that leave the place as it is, and the idempotent ones of these. */
        private void list(int place) {
            stays = 0;
            loopCount = 0;
            stayBits[2 * place] = 0L;
            stayBits[2 * place + 1] = 0L;
            for (int x = 0; x < one.count; x++) {
                if (productOf(place, x) == place) {
                    stay[stays] = x;
                    stays++;
                    stayBits[2 * place + (x >> 6)] |= 1L << (x & 63);
                    if (one.powerOf(x) == x) {
                        loops[loopCount] = x;
                        loopCount++;
                    }
                }
            }
        }

        /** Whether a place before has the same loops with the same values, so that its chains are these. */
        private boolean isLikeEarlier(int place) {
            for (int x = 0; x < place; x++) {
                if (one.wayKind(x) == one.wayKind(place) && stayBits[2 * x] == stayBits[2 * place]
                        && stayBits[2 * x + 1] == stayBits[2 * place + 1]) {
                    return true;
                }
            }
            return false;
        }

        private int longestAt(int place, boolean isIn) {
            for (int i = 0; i < loopCount; i++) {
                lengths[loops[i]] = 1;
            }
            boolean isGrowing = true;
            for (int round = 0; round <= CLASSES && isGrowing; round++) {
                isGrowing = false;
                for (int i = 0; i < loopCount; i++) {
                    isGrowing = isExtended(place, loops[i]) || isGrowing;
                }
            }
            int most = 0;
            for (int i = 0; i < loopCount; i++) {
                if (one.judge(place, loops[i]) == isIn) {
                    most = Math.max(most, lengths[loops[i]]);
                }
            }
            return most;
        }

        private int lengthFrom(int loop) {
            return loop >= 0 && loop < lengths.length ? lengths[loop] : 1;
        }

        /** Looks for a longer chain that begins with the loop, and tells whether there is one. */
        private boolean isExtended(int place, int loop) {
            boolean isIn = one.judge(place, loop);
            int most = lengths[loop];
            for (int i = 0; i < stays; i++) {
                int extended = one.powerOf(productOf(loop, stay[i]));
                if (one.judge(place, extended) != isIn) {
                    most = Math.max(most, lengthFrom(extended) + 1);
                }
            }
            boolean isLonger = most > lengths[loop];
            lengths[loop] = most;
            return isLonger;
        }
    }

    /** All lassos as pairs of rows: by all letters, then by the front, then by the round. */
    private static final class Lassos {
        int front;
        int round;
        int total;
        private int frontLetters;

        void begin() {
            total = 0;
            frontLetters = 0;
            front = EMPTY;
            round = EMPTY;
        }

        /** Goes to the next lasso; not if it has more letters than told. */
        boolean advance(int most) {
            round++;
            if (lettersOf(round) > total - frontLetters) {
                front++;
                if (lettersOf(front) > frontLetters) {
                    frontLetters++;
                    if (frontLetters >= total) {
                        total++;
                        frontLetters = 0;
                    }
                    front = 1 << frontLetters;
                }
                round = 1 << (total - frontLetters);
            }
            return total <= most;
        }
    }

    /** The text, and what it says of lassos: the places where it is true are bits. */
    private static final class Formula {
        private static final int SIGNS = 30;

        private final char[] signs = new char[SIGNS];
        private final int[] places = new int[SIGNS + 1];
        private int count;
        private int depth;
        private int letters;
        private int start;

        /** To how many formulas a sign belongs, -1 if there is no such sign. */
        static int partsOf(char sign) {
            switch (sign) {
                case 'a': return 0;
                case '!': case 'X': case 'F': case 'G': return 1;
                case '&': case '|': case 'U': return 2;
                default: return -1;
            }
        }

        boolean isFull() {
            return count >= signs.length;
        }

        int append(char sign) {
            if (count < signs.length) {
                signs[count] = sign;
                count++;
            }
            return count;
        }

        int clear() {
            int before = count;
            count = 0;
            return before;
        }

        /** Whether the text is just one formula. */
        boolean isWhole() {
            int missing = 1;
            for (int i = 0; i < count; i++) {
                if (missing == 0) {
                    return false;
                }
                missing += partsOf(signs[i]) - 1;
            }
            return missing == 0;
        }

        boolean isTrueOf(int way, int loop) {
            start = lettersOf(way);
            letters = start + lettersOf(loop);
            int all = (1 << letters) - 1;
            depth = 0;
            for (int i = count - 1; i >= 0; i--) {
                apply(signs[i], way, loop, all);
            }
            return depth > 0 && (places[0] & 1) == 1;
        }

        private void apply(char sign, int way, int loop, int all) {
            if (sign == 'a') {
                push(lettersA(way, loop));
                return;
            }
            int one = pop();
            switch (sign) {
                case '!': push(all & ~one); break;
                case '&': push(one & pop()); break;
                case '|': push(one | pop()); break;
                case 'X': push(stepped(one)); break;
                case 'F': push(until(all, one)); break;
                case 'G': push(all & ~until(all, all & ~one)); break;
                default: push(until(one, pop())); break;
            }
        }

        private void push(int value) {
            if (depth < places.length) {
                places[depth] = value;
                depth++;
            }
        }

        private int pop() {
            if (depth <= 0) {
                return 0;
            }
            depth--;
            return places[depth];
        }

        private int lettersA(int way, int loop) {
            int found = 0;
            for (int i = 0; i < letters; i++) {
                int bit = i < start ? bitAt(way, i) : bitAt(loop, i - start);
                if (bit == 0) {
                    found |= 1 << i;
                }
            }
            return found;
        }

        private int placeAfter(int place) {
            return place + 1 < letters ? place + 1 : start;
        }

        private int stepped(int goal) {
            int found = 0;
            for (int i = 0; i < letters; i++) {
                if ((goal >> placeAfter(i) & 1) == 1) {
                    found |= 1 << i;
                }
            }
            return found;
        }

        private int until(int hold, int goal) {
            int found = goal;
            // Once round the loop and once more: from the end of the loop the goal may stand at its start.
            for (int round = 0; round < 2; round++) {
                for (int i = letters - 1; i >= 0; i--) {
                    if ((hold >> i & found >> placeAfter(i) & 1) == 1) {
                        found |= 1 << i;
                    }
                }
            }
            return found;
        }
    }

    /** Positions and their ways, as bits. */
    private static final class Game {
        static final int COLOURS = 6;
        private static final int POSITIONS = 10;

        private final int[] owner = new int[POSITIONS];
        private final int[] colour = new int[POSITIONS];
        private final int[] ways = new int[POSITIONS];
        private final int[] guess = new int[COLOURS];
        private int count;

        boolean isFull() {
            return count >= POSITIONS;
        }

        boolean isPosition(int number) {
            return number >= 0 && number < count && number < POSITIONS;
        }

        int add(int player, int newColour) {
            if (count >= POSITIONS) {
                return -1;
            }
            owner[count] = player;
            colour[count] = newColour;
            ways[count] = 0;
            count++;
            return count - 1;
        }

        boolean toggle(int from, int to) {
            ways[from] ^= 1 << to;
            return isWay(from, to);
        }

        private boolean isWay(int from, int to) {
            return (ways[from] >> to & 1) == 1;
        }

        /** The positions from which the player 0 wins. */
        int winning() {
            return settle(this, COLOURS - 1);
        }

        /**
         * The positions that are left when the guess of this colour and of all below agree with what a
         * step makes of them: an even colour may come again for ever, an odd one only finitely often.
         */
        private static int settle(Game game, int level) {
            if (level < 0 || level >= COLOURS) {
                return game.stepOnce();
            }
            game.guess[level] = level % 2 == 0 ? (1 << game.count) - 1 : 0;
            for (int round = 0; round <= POSITIONS; round++) {
                int made = settle(game, level - 1);
                if (made == game.guess[level]) {
                    return made;
                }
                game.guess[level] = made;
            }
            return game.guess[level];
        }

        private int stepOnce() {
            int in = 0;
            for (int i = 0; i < count; i++) {
                int to = ways[i] & guess[colour[i]];
                boolean isIn = owner[i] == 0 ? to != 0 : to == ways[i];
                if (isIn) {
                    in |= 1 << i;
                }
            }
            return in;
        }

        /** The lowest way by which the winner stays the winner, -1 if the other one is at the position. */
        int keeping(int from, int winning) {
            int winner = (winning >> from & 1) == 1 ? 0 : 1;
            if (owner[from] != winner) {
                return -1;
            }
            for (int to = 0; to < count; to++) {
                int next = (winning >> to & 1) == 1 ? 0 : 1;
                if (isWay(from, to) && next == winner) {
                    return to;
                }
            }
            return -1;
        }

        /** Whether each winner has a way that keeps the position won, or each way of the loser does. */
        boolean isKept() {
            int winning = winning();
            for (int from = 0; from < count; from++) {
                int winner = (winning >> from & 1) == 1 ? 0 : 1;
                int others = winner == 0 ? ways[from] & ~winning : ways[from] & winning;
                boolean isKeeping = owner[from] == winner ? keeping(from, winning) >= 0 : others == 0;
                if (!isKeeping) {
                    return false;
                }
            }
            return true;
        }
    }
}
