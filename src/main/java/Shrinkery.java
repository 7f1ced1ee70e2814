import java.util.NoSuchElementException;

/** Breaks programs by drawn inputs and makes what breaks them small; the document tells what each method promises. */
public final class Shrinkery {
    private static final int MOST_GENERATORS = 16;
    private static final int MOST_PROGRAMS = 6;
    private static final int MOST_INSTRUCTIONS = 16;
    private static final int MOST_PROPERTIES = 8;
    private static final int MOST_DRAWS = 60;
    private static final int MOST_VALUES = 40;
    private static final int MOST_COMMANDS = 20;
    private static final int MOST_BESIDE = 4;
    private static final int MOST_RUN = 100;
    private static final int MOST_TRIES = 400;
    private static final int MOST_SUM = 10000;
    private static final int NONTERMINALS = 6;
    private static final int MOST_PRODUCTIONS = 4;
    private static final int MOST_SYMBOLS = 4;
    private static final int FIRST_LETTER = 10;
    private static final int LAST_LETTER = 99;
    private static final int LONGEST_WORD = 12;
    private static final int END = 16;
    private static final int EDGES = 272;
    private static final long MOST_COUNTED = 1000000000L;
    /** Sixteen generators, trees of a depth of 4 among them, nest less deep than this. */
    private static final int MOST_LEVELS = 90;

    private final Grammar grammar;
    private final Generators generators;
    private final Maker maker;
    private final Programs programs;
    private final Properties properties;
    private final Failure failure;
    private final Trial trial;
    private final Search guided;
    private final Commands commands;
    private final Sides sides;
    private final Input input;
    private final Input typed;
    private boolean hasInput;

    public Shrinkery() {
        Grammar words = new Grammar();
        Generators parts = new Generators();
        Maker making = new Maker(parts, words);
        Programs tested = new Programs();
        Properties judged = new Properties(tested);
        Failure broken = new Failure(making, judged);
        grammar = words;
        generators = parts;
        maker = making;
        programs = tested;
        properties = judged;
        failure = broken;
        trial = new Trial(making, judged, broken);
        guided = new Search(making, tested);
        commands = new Commands();
        sides = new Sides();
        input = new Input();
        typed = new Input();
    }

    // ---- generators

    public int number(int least, int greatest) throws IllegalArgumentException, IllegalStateException {
        needRange(least, 0, 255);
        needRange(greatest, least, 255);
        needRoomForGenerator();
        return generators.add('n', least, greatest, 0);
    }

    public int choice(int first, int second, int weight)
            throws IndexOutOfBoundsException, IllegalArgumentException, IllegalStateException {
        needGenerator(first);
        needGenerator(second);
        needRange(weight, 1, 9);
        needRoomForGenerator();
        return generators.add('c', first, second, weight);
    }

    public int list(int of, int most)
            throws IndexOutOfBoundsException, IllegalArgumentException, IllegalStateException {
        needGenerator(of);
        needRange(most, 0, 8);
        needRoomForGenerator();
        return generators.add('l', of, most, 0);
    }

    public int pair(int first, int second) throws IndexOutOfBoundsException, IllegalStateException {
        needGenerator(first);
        needGenerator(second);
        needRoomForGenerator();
        return generators.add('p', first, second, 0);
    }

    public int filter(int of, int modulus, int rest)
            throws IndexOutOfBoundsException, IllegalArgumentException, IllegalStateException {
        needGenerator(of);
        needRange(modulus, 2, 9);
        needRange(rest, 0, modulus - 1);
        needRoomForGenerator();
        return generators.add('f', of, modulus, rest);
    }

    public int depends(int first, int second) throws IndexOutOfBoundsException, IllegalStateException {
        needGenerator(first);
        needGenerator(second);
        needRoomForGenerator();
        return generators.add('d', first, second, 0);
    }

    public int tree(int of, int depth)
            throws IndexOutOfBoundsException, IllegalArgumentException, IllegalStateException {
        needGenerator(of);
        needRange(depth, 0, 4);
        needRoomForGenerator();
        return generators.add('t', of, depth, 0);
    }

    public int word(int nonterminal, int length) throws IllegalArgumentException, IllegalStateException {
        needRange(nonterminal, 0, NONTERMINALS - 1);
        needRange(length, 1, LONGEST_WORD);
        needRoomForGenerator();
        return generators.add('g', nonterminal, length, 0);
    }

    public char kindOf(int generator) throws IndexOutOfBoundsException {
        needGenerator(generator);
        return generators.kinds[generator];
    }

    // ---- the input

    public int draw(int generator, int seed) throws IndexOutOfBoundsException, NoSuchElementException {
        needGenerator(generator);
        needMade(maker.makeInto(generator, null, seed, input));
        hasInput = true;
        return input.size;
    }

    public int type(int draw) throws IllegalArgumentException, IllegalStateException {
        needRange(draw, 0, 255);
        if (typed.length >= MOST_DRAWS) {
            throw new IllegalStateException("the typed row is full");
        }
        typed.row[typed.length] = draw;
        typed.length++;
        return typed.length;
    }

    public int erase() {
        int before = typed.length;
        typed.length = 0;
        return before;
    }

    public int replay(int generator) throws IndexOutOfBoundsException, NoSuchElementException {
        needGenerator(generator);
        needMade(maker.makeInto(generator, typed, 0, input));
        hasInput = true;
        return input.size;
    }

    public int value(int index) throws IndexOutOfBoundsException {
        needIndex(index, input.size);
        return input.values[index];
    }

    public int draws() {
        return input.length;
    }

    public int drawAt(int index) throws IndexOutOfBoundsException {
        needIndex(index, input.length);
        return input.row[index];
    }

    // ---- all inputs

    public long inputs(int generator) throws IndexOutOfBoundsException, UnsupportedOperationException {
        needCounted(generator);
        return generators.counts[generator];
    }

    public int inputLength(int generator, int number)
            throws IndexOutOfBoundsException, UnsupportedOperationException, NoSuchElementException {
        needCounted(generator);
        needNumbered(generator, number);
        return generators.lengthOf(generator, number);
    }

    public int inputAt(int generator, int number, int index)
            throws IndexOutOfBoundsException, UnsupportedOperationException, NoSuchElementException {
        needCounted(generator);
        needNumbered(generator, number);
        int found = generators.valueOf(generator, number, index);
        if (found < 0) {
            throw new NoSuchElementException("no such value of the input");
        }
        return found;
    }

    // ---- programs

    public int program() throws IllegalStateException {
        if (programs.count >= MOST_PROGRAMS) {
            throw new IllegalStateException("there are as many programs as there may be");
        }
        return programs.add();
    }

    public int instruct(int program, char kind, int k, int target)
            throws IndexOutOfBoundsException, IllegalArgumentException, IllegalStateException {
        needProgram(program);
        if (!Programs.isKind(kind)) {
            throw new IllegalArgumentException("no such kind of an instruction");
        }
        boolean isCounted = Programs.hasNumber(kind);
        boolean isLeading = Programs.hasTarget(kind);
        if (isCounted) {
            needRange(k, 0, 255);
        }
        if (isLeading) {
            needRange(target, 0, MOST_INSTRUCTIONS - 1);
        }
        if (programs.sizes[program] >= MOST_INSTRUCTIONS) {
            throw new IllegalStateException("the program is full");
        }
        guided.isStale = true;
        return programs.put(program, kind, isCounted ? k : 0, isLeading ? target : 0);
    }

    public int faultOf(int program) throws IndexOutOfBoundsException, NoSuchElementException {
        executeOnInput(program);
        return programs.fault;
    }

    public int output(int program) throws IndexOutOfBoundsException, NoSuchElementException {
        executeOnInput(program);
        return programs.output;
    }

    public int classOf(int program)
            throws IndexOutOfBoundsException, NoSuchElementException, UnsupportedOperationException {
        executeOnInput(program);
        if (programs.fault < 0) {
            throw new UnsupportedOperationException("the program has no fault");
        }
        return programs.faultClass();
    }

    public int edges(int program) throws IndexOutOfBoundsException, NoSuchElementException {
        executeOnInput(program);
        return programs.edgeCount;
    }

    public int level(int program, int from, int to)
            throws IndexOutOfBoundsException, IllegalArgumentException, NoSuchElementException {
        needProgram(program);
        needRange(from, 0, MOST_INSTRUCTIONS - 1);
        needRange(to, 0, END);
        executeOnInput(program);
        return programs.levelOf(Programs.edge(from, to));
    }

    // ---- properties and runs

    public int property(char kind, int k, int other) throws IllegalArgumentException, IllegalStateException {
        if (!isPropertyKind(kind)) {
            throw new IllegalArgumentException("no such kind of a property");
        }
        if (kind == 's') {
            needRange(k, 0, MOST_SUM);
        }
        if (kind == 'p' || kind == 'd') {
            needRange(k, 0, programs.count - 1);
        }
        if (kind == 'd') {
            needRange(other, 0, programs.count - 1);
        }
        if (properties.count >= MOST_PROPERTIES) {
            throw new IllegalStateException("there are as many properties as there may be");
        }
        return properties.add(kind, k, other);
    }

    public int require(int property, int modulus, int rest)
            throws IndexOutOfBoundsException, IllegalArgumentException {
        needProperty(property);
        needRange(modulus, 1, 9);
        needRange(rest, 0, modulus - 1);
        return properties.restrict(property, modulus, rest);
    }

    public boolean holds(int property) throws IndexOutOfBoundsException, NoSuchElementException {
        needProperty(property);
        needInput();
        return properties.breakOf(property, input) < 0;
    }

    public char run(int property, int generator, int seed, int many, int discards)
            throws IndexOutOfBoundsException, IllegalArgumentException {
        needProperty(property);
        needGenerator(generator);
        needRange(many, 1, MOST_RUN);
        needRange(discards, 0, MOST_RUN);
        return trial.test(property, generator, seed, many, discards);
    }

    public int tested() {
        return trial.good;
    }

    public int discarded() {
        return trial.dropped;
    }

    public int label(int which) throws IllegalArgumentException {
        needRange(which, 0, 3);
        return trial.labels[which];
    }

    public double unseen() throws ArithmeticException {
        if (trial.kept < 1) {
            throw new ArithmeticException("no input of the run was not discarded");
        }
        return (double) trial.singles() / (double) trial.kept;
    }

    public float breakShare() throws ArithmeticException {
        if (trial.runs < 1) {
            throw new ArithmeticException("there were no runs");
        }
        return (float) trial.breaks / (float) trial.runs;
    }

    // ---- the failure

    public int shrink(int tries) throws IllegalArgumentException, NoSuchElementException {
        needRange(tries, 1, MOST_TRIES);
        needFailure();
        return failure.shrinkBy(tries);
    }

    public int failureClass() throws NoSuchElementException {
        needFailure();
        return failure.broken;
    }

    public int failureDraw(int index) throws NoSuchElementException, IndexOutOfBoundsException {
        needFailure();
        needIndex(index, failure.kept.length);
        return failure.kept.row[index];
    }

    public int failureValue(int index) throws NoSuchElementException, IndexOutOfBoundsException {
        needFailure();
        needIndex(index, failure.kept.size);
        return failure.kept.values[index];
    }

    public boolean isReplayed() throws NoSuchElementException {
        needFailure();
        return failure.isBroken(failure.kept);
    }

    public int least(int first, int second)
            throws IndexOutOfBoundsException, UnsupportedOperationException, NoSuchElementException {
        needProgram(first);
        needProgram(second);
        if (programs.sizes[first] != programs.sizes[second]) {
            throw new UnsupportedOperationException("the programs have not as many instructions");
        }
        needFailure();
        int all = programs.changes(first, second);
        if (!programs.isBreaking(first, second, all, failure.kept)) {
            throw new NoSuchElementException("not even all changes break");
        }
        return programs.leastSet(first, second, all, failure.kept);
    }

    // ---- guided search

    public int search(int program, int generator, int seed, int rounds)
            throws IndexOutOfBoundsException, IllegalArgumentException {
        needProgram(program);
        needGenerator(generator);
        needRange(rounds, 0, MOST_RUN);
        return guided.begin(program, generator, seed, rounds);
    }

    public int corpus() {
        return guided.rows;
    }

    public int corpusDraw(int row, int index) throws IndexOutOfBoundsException {
        needIndex(row, guided.rows);
        needIndex(index, guided.corpus[row].length);
        return guided.corpus[row].row[index];
    }

    public int energy(int row) throws IndexOutOfBoundsException {
        needIndex(row, guided.rows);
        return guided.energyOf(row);
    }

    public int classes() {
        return guided.found;
    }

    public int foundClass(int index) throws IndexOutOfBoundsException {
        needIndex(index, guided.found);
        return guided.classes[index];
    }

    public int leastLength(int index) throws IndexOutOfBoundsException {
        needIndex(index, guided.found);
        return guided.leastRows[index].length;
    }

    public int covered() {
        return guided.covered;
    }

    // ---- machines of states

    public int queue(int room, int defect) throws IllegalArgumentException {
        needRange(room, 1, 4);
        needRange(defect, 0, 3);
        return commands.begin(room, defect);
    }

    public int command(int kind, int number) throws IllegalArgumentException, IllegalStateException {
        needRange(kind, 0, 3);
        if (kind == 0) {
            needRange(number, 0, 99);
        }
        if (kind == 3) {
            needRange(number, 0, commands.size - 1);
        }
        if (commands.size >= MOST_COMMANDS) {
            throw new IllegalStateException("there are as many commands as there may be");
        }
        return commands.add(kind, kind == 0 || kind == 3 ? number : 0);
    }

    public int answer(int command, boolean ofModel) throws IndexOutOfBoundsException {
        needIndex(command, commands.size);
        return commands.answerOf(command, ofModel);
    }

    public int breaksAt() throws NoSuchElementException {
        int at = commands.firstBreak();
        needBreak(at);
        return at;
    }

    public int makeSmall() throws NoSuchElementException {
        needBreak(commands.firstBreak());
        return commands.leaveOutAll();
    }

    public int commandAt(int command, boolean isKind) throws IndexOutOfBoundsException {
        needIndex(command, commands.size);
        return isKind ? commands.kinds[command] : commands.numbers[command];
    }

    // ---- side by side

    public int beside(int row, int kind, int k)
            throws IndexOutOfBoundsException, IllegalArgumentException, IllegalStateException {
        needIndex(row, 2);
        needRange(kind, 0, 1);
        if (kind == 1) {
            needRange(k, -9, 9);
        }
        if (sides.sizes[row] >= MOST_BESIDE) {
            throw new IllegalStateException("the row is full");
        }
        return sides.add(row, kind, kind == 1 ? k : 0);
    }

    public int apart() {
        return sides.clear();
    }

    public int schedule(int bits, int row, int command) throws IndexOutOfBoundsException {
        needIndex(row, 2);
        needIndex(command, sides.sizes[row]);
        return sides.answerBy(bits, row, command);
    }

    public boolean isInOrder(int bits) {
        return sides.isOrdered(bits);
    }

    public int disorders() throws UnsupportedOperationException {
        int steps = sides.steps();
        if (steps > 10) {
            throw new UnsupportedOperationException("there are more than 10 steps");
        }
        int count = 0;
        for (int bits = 0; bits < 1 << steps; bits++) {
            if (!sides.isOrdered(bits)) {
                count++;
            }
        }
        return count;
    }

    // ---- grammars

    public int produce(int nonterminal, int first, int second, int third, int fourth)
            throws IllegalArgumentException, IllegalStateException {
        needRange(nonterminal, 0, NONTERMINALS - 1);
        needSymbol(first);
        needSymbolBehind(first, second);
        needSymbolBehind(second, third);
        needSymbolBehind(third, fourth);
        if (second == -1 && first < NONTERMINALS && first <= nonterminal) {
            throw new IllegalArgumentException("just one nonterminal, whose number is not greater");
        }
        if (grammar.sizes[nonterminal] >= MOST_PRODUCTIONS) {
            throw new IllegalStateException("the nonterminal has as many productions as it may have");
        }
        failure.isStale = true;
        guided.isStale = true;
        return grammar.add(nonterminal, first, second, third, fourth);
    }

    public int words(int nonterminal, int length) throws IllegalArgumentException {
        needRange(nonterminal, 0, NONTERMINALS - 1);
        needRange(length, 1, LONGEST_WORD);
        return (int) grammar.countOf(nonterminal, length);
    }

    public int letterAt(int nonterminal, int length, int number, int place)
            throws IllegalArgumentException, NoSuchElementException {
        needRange(nonterminal, 0, NONTERMINALS - 1);
        needRange(length, 1, LONGEST_WORD);
        needRange(place, 0, length - 1);
        if (number < 0 || number >= grammar.countOf(nonterminal, length)) {
            throw new NoSuchElementException("no such word");
        }
        grammar.derive(nonterminal, length, number);
        return grammar.letters[place];
    }

    public boolean isSound() {
        return failure.isReplayable() && guided.isKeepingClasses() && grammar.isMakingLengths();
    }

    // ---- what calls need

    private void needRange(int number, int least, int greatest) {
        if (number < least || number > greatest) {
            throw new IllegalArgumentException("a number is out of range");
        }
    }

    private void needIndex(int index, int count) {
        if (index < 0 || index >= count) {
            throw new IndexOutOfBoundsException("there is no such one");
        }
    }

    private void needGenerator(int generator) {
        needIndex(generator, generators.count);
    }

    private void needProgram(int program) {
        needIndex(program, programs.count);
    }

    private void needProperty(int property) {
        needIndex(property, properties.count);
    }

    private void needRoomForGenerator() {
        if (generators.count >= MOST_GENERATORS) {
            throw new IllegalStateException("there are as many generators as there may be");
        }
    }

    private void needMade(boolean isMade) {
        if (!isMade) {
            throw new NoSuchElementException("the input is discarded");
        }
    }

    private void needInput() {
        if (!hasInput) {
            throw new NoSuchElementException("there is no input");
        }
    }

    private void needFailure() {
        if (!failure.isThere) {
            throw new NoSuchElementException("there is no failure");
        }
    }

    private void needBreak(int at) {
        if (at < 0) {
            throw new NoSuchElementException("queue and model do not break");
        }
    }

    private void needCounted(int generator) {
        needGenerator(generator);
        if (generators.counts[generator] < 0) {
            throw new UnsupportedOperationException("a filter, dependence or words are in it");
        }
    }

    private void needNumbered(int generator, int number) {
        if (number < 0 || number >= generators.counts[generator]) {
            throw new NoSuchElementException("no such input");
        }
    }

    private void needSymbol(int symbol) {
        boolean isNonterminal = symbol >= 0 && symbol < NONTERMINALS;
        boolean isLetter = symbol >= FIRST_LETTER && symbol <= LAST_LETTER;
        if (!isNonterminal && !isLetter) {
            throw new IllegalArgumentException("no such symbol");
        }
    }

    private void needSymbolBehind(int ahead, int symbol) {
        if (symbol == -1) {
            return;
        }
        needSymbol(symbol);
        if (ahead == -1) {
            throw new IllegalArgumentException("a symbol is behind none");
        }
    }

    private void executeOnInput(int program) {
        needProgram(program);
        needInput();
        programs.execute(program, input);
    }

    private static boolean isPropertyKind(char kind) {
        return kind == 's' || kind == 'o' || kind == 'u' || kind == 'p' || kind == 'd';
    }

    /** What is left of a number that is not below 0; 0 by a divisor that there is not. */
    private static int restOf(int number, int divisor) {
        return divisor < 1 ? 0 : number % divisor;
    }

    private static long longRestOf(long number, long divisor) {
        return divisor < 1 ? 0 : number % divisor;
    }

    private static long longPartOf(long number, long divisor) {
        return divisor < 1 ? 0 : number / divisor;
    }

    private static int nextState(int z) {
        return z * 1103515245 + 12345;
    }

    private static int drawOf(int z) {
        return z >>> 16 & 255;
    }

    /** An input: its values, and the row of the draws that it used. */
    private static final class Input {
        private final int[] values = new int[MOST_VALUES];
        private final int[] row = new int[MOST_DRAWS];
        private int size;
        private int length;

        private void become(Input other) {
            becomeRow(other);
            size = other.size;
            for (int i = 0; i < size && i < MOST_VALUES; i++) {
                values[i] = other.values[i];
            }
        }

        private void becomeRow(Input other) {
            length = other.length;
            for (int i = 0; i < length && i < MOST_DRAWS; i++) {
                row[i] = other.row[i];
            }
        }

        private boolean isLess(Input other) {
            if (length != other.length) {
                return length < other.length;
            }
            for (int i = 0; i < length && i < MOST_DRAWS; i++) {
                if (row[i] != other.row[i]) {
                    return row[i] < other.row[i];
                }
            }
            return false;
        }

        private int sum() {
            int all = 0;
            for (int i = 0; i < size && i < MOST_VALUES; i++) {
                all += values[i];
            }
            return all;
        }
    }

    /** The productions, and how many words they make of each length. */
    private static final class Grammar {
        private static final int LENGTHS = 13;
        private static final int LETTER = 6;
        private static final int TAILS = 5;
        private static final int ALL = 24;
        private static final int MOST_STEPS = 1000;

        private final int[] sizes = new int[NONTERMINALS];
        private final int[] symbols = new int[ALL * MOST_SYMBOLS];
        private final int[] symbolCounts = new int[ALL];
        /** By symbol and length; all letters share the last row. */
        private final long[] made = new long[(NONTERMINALS + 1) * LENGTHS];
        /** By production, symbol and length: in how many ways this symbol and those behind it make the length. */
        private final long[] tails = new long[ALL * TAILS * LENGTHS];
        private final int[] letters = new int[LONGEST_WORD];
        private final int[] openSymbols = new int[LONGEST_WORD + MOST_SYMBOLS];
        private final int[] openLengths = new int[LONGEST_WORD + MOST_SYMBOLS];
        private final long[] openNumbers = new long[LONGEST_WORD + MOST_SYMBOLS];
        private int open;

        private Grammar() {
            made[LETTER * LENGTHS + 1] = 1;
        }

        private int add(int nonterminal, int first, int second, int third, int fourth) {
            int production = nonterminal * MOST_PRODUCTIONS + sizes[nonterminal];
            if (production >= ALL) {
                return sizes[nonterminal];
            }
            symbols[production * MOST_SYMBOLS] = first;
            symbols[production * MOST_SYMBOLS + 1] = second;
            symbols[production * MOST_SYMBOLS + 2] = third;
            symbols[production * MOST_SYMBOLS + 3] = fourth;
            symbolCounts[production] = second < 0 ? 1 : third < 0 ? 2 : fourth < 0 ? 3 : 4;
            tails[tail(production, symbolCounts[production], 0)] = 1;
            sizes[nonterminal]++;
            countAll();
            return sizes[nonterminal];
        }

        private static int tail(int production, int symbol, int length) {
            return (production * TAILS + symbol) * LENGTHS + length;
        }

        private static int rowOf(int symbol) {
            return symbol >= 0 && symbol < NONTERMINALS ? symbol : LETTER;
        }

        private long countOf(int nonterminal, int length) {
            return made[rowOf(nonterminal) * LENGTHS + length];
        }

        /** Lengths rise, and nonterminals fall in each: so all that a count is made of stands before it. */
        private void countAll() {
            for (int length = 1; length <= LONGEST_WORD; length++) {
                for (int nonterminal = NONTERMINALS - 1; nonterminal >= 0; nonterminal--) {
                    made[nonterminal * LENGTHS + length] = countFrom(nonterminal, length);
                }
                for (int production = 0; production < ALL; production++) {
                    for (int symbol = symbolCounts[production] - 1; symbol >= 1; symbol--) {
                        countTail(production, symbol, length);
                    }
                }
            }
        }

        private long countFrom(int nonterminal, int length) {
            long sum = 0;
            for (int i = 0; i < sizes[nonterminal]; i++) {
                sum += countTail(nonterminal * MOST_PRODUCTIONS + i, 0, length);
            }
            return Math.min(sum, MOST_COUNTED);
        }

        private long countTail(int production, int symbol, int length) {
            int row = rowOf(symbols[production * MOST_SYMBOLS + symbol]) * LENGTHS;
            long sum = 0;
            for (int own = 1; own <= length; own++) {
                sum += Math.min(MOST_COUNTED, made[row + own] * tails[tail(production, symbol + 1, length - own)]);
            }
            long count = Math.min(sum, MOST_COUNTED);
            tails[tail(production, symbol, length)] = count;
            return count;
        }

        /** Writes the letters of a word, its number counted round, and returns how many they are; 0 without a word. */
        private int derive(int nonterminal, int length, int number) {
            long words = countOf(nonterminal, length);
            int written = 0;
            openSymbols[0] = nonterminal;
            openLengths[0] = length;
            openNumbers[0] = longRestOf(number, words);
            open = words < 1 ? 0 : 1;
            for (int step = 0; step < MOST_STEPS && open > 0; step++) {
                open--;
                int symbol = openSymbols[open];
                if (symbol < NONTERMINALS) {
                    part(symbol, openLengths[open], openNumbers[open]);
                } else if (written < LONGEST_WORD) {
                    letters[written] = symbol;
                    written++;
                }
            }
            return written;
        }

        /** Opens the symbols of the production that a word comes from, the first one on top. */
        private void part(int nonterminal, int length, long number) {
            int production = nonterminal * MOST_PRODUCTIONS;
            int last = production + sizes[nonterminal] - 1;
            long rest = number;
            while (production < last && rest >= tails[tail(production, 0, length)]) {
                rest -= tails[tail(production, 0, length)];
                production++;
            }
            int count = symbolCounts[production];
            if (open + count > openSymbols.length) {
                return;
            }
            int left = length;
            for (int i = 0; i < count && left > 0; i++) {
                int symbol = symbols[production * MOST_SYMBOLS + i];
                int row = rowOf(symbol) * LENGTHS;
                int own = 1;
                long others = tails[tail(production, i + 1, left - own)];
                while (own < left && rest >= Math.min(MOST_COUNTED, made[row + own] * others)) {
                    rest -= Math.min(MOST_COUNTED, made[row + own] * others);
                    own++;
                    others = tails[tail(production, i + 1, left - own)];
                }
                int at = open + count - 1 - i;
                openSymbols[at] = symbol;
                openLengths[at] = own;
                openNumbers[at] = longPartOf(rest, others);
                rest = longRestOf(rest, others);
                left -= own;
            }
            open += count;
        }

        private boolean isMakingLengths() {
            for (int nonterminal = 0; nonterminal < NONTERMINALS; nonterminal++) {
                for (int length = 1; length <= 4; length++) {
                    for (int number = 0; number < 10 && number < countOf(nonterminal, length); number++) {
                        if (derive(nonterminal, length, number) != length) {
                            return false;
                        }
                    }
                }
            }
            return true;
        }
    }

    /** The generators, and the numbers of all their inputs. */
    private static final class Generators {
        private static final long UNCOUNTED = -1;

        private final char[] kinds = new char[MOST_GENERATORS];
        private final int[] firsts = new int[MOST_GENERATORS];
        private final int[] seconds = new int[MOST_GENERATORS];
        private final int[] thirds = new int[MOST_GENERATORS];
        private final long[] counts = new long[MOST_GENERATORS];
        /** How many values the input 0 has: most parts of an input are inputs 0, which need not be gone through. */
        private final int[] zeroLengths = new int[MOST_GENERATORS];
        private int count;
        private int passed;
        private int wanted;
        private int found;

        private boolean has(int generator) {
            return generator >= 0 && generator < count;
        }

        private int add(char kind, int first, int second, int third) {
            if (count >= MOST_GENERATORS) {
                return count;
            }
            kinds[count] = kind;
            firsts[count] = first;
            seconds[count] = second;
            thirds[count] = third;
            counts[count] = countNew(kind, first, second);
            zeroLengths[count] = zeroLengthOfNew(kind, first, second);
            count++;
            return count - 1;
        }

        private int depthOf(int generator) {
            return has(generator) && kinds[generator] == 't' ? seconds[generator] : 0;
        }

        private long countOfPart(int generator) {
            return has(generator) ? counts[generator] : UNCOUNTED;
        }

        private int zeroLengthOf(int generator) {
            return has(generator) ? zeroLengths[generator] : 0;
        }

        private long countNew(char kind, int first, int second) {
            if (kind == 'n') {
                return second - first + 1;
            }
            boolean isOfTwo = kind == 'c' || kind == 'p';
            if (!isOfTwo && kind != 'l' && kind != 't' || countOfPart(first) < 0) {
                return UNCOUNTED;
            }
            long one = countOfPart(first);
            if (kind == 'l') {
                return countOfLists(one, second);
            }
            if (kind == 't') {
                return countOfTrees(one, second);
            }
            long other = countOfPart(second);
            if (other < 0) {
                return UNCOUNTED;
            }
            return Math.min(MOST_COUNTED, kind == 'c' ? one + other : one * other);
        }

        private static long countOfLists(long one, int most) {
            long sum = 0;
            for (int length = 0; length <= most; length++) {
                sum += power(one, length);
            }
            return Math.min(MOST_COUNTED, sum);
        }

        private static long countOfTrees(long one, int depth) {
            long count = one;
            for (int i = 0; i < depth; i++) {
                count = Math.min(MOST_COUNTED, one + count * count);
            }
            return count;
        }

        private static long power(long base, int exponent) {
            long power = 1;
            for (int i = 0; i < exponent; i++) {
                power = Math.min(MOST_COUNTED, power * base);
            }
            return power;
        }

        private int zeroLengthOfNew(char kind, int first, int second) {
            switch (kind) {
                case 'n':
                    return 1;
                case 'c':
                case 't':
                    return zeroLengthOf(first);
                case 'p':
                    return zeroLengthOf(first) + zeroLengthOf(second);
                default:
                    return 0;
            }
        }

        private int lengthOf(int generator, int number) {
            passed = 0;
            wanted = -1;
            walk(generator, depthOf(generator), number, 0);
            return passed;
        }

        /** A value of the input of a number, -1 if it has none there. */
        private int valueOf(int generator, int number, int index) {
            passed = 0;
            wanted = index;
            found = -1;
            walk(generator, depthOf(generator), number, 0);
            return found;
        }

        private void walk(int generator, int depth, long number, int level) {
            if (level > MOST_LEVELS || !has(generator)) {
                return;
            }
            int zeroLength = zeroLengths[generator];
            if (number == 0 && (wanted < passed || wanted - passed >= zeroLength)) {
                passed += zeroLength;
                return;
            }
            int first = firsts[generator];
            int second = seconds[generator];
            switch (kinds[generator]) {
                case 'n':
                    found = passed == wanted ? first + (int) number : found;
                    passed++;
                    break;
                case 'c':
                    if (number < countOfPart(first)) {
                        walk(first, depthOf(first), number, level + 1);
                    } else {
                        walk(second, depthOf(second), number - countOfPart(first), level + 1);
                    }
                    break;
                case 'l':
                    walkList(generator, number, level);
                    break;
                case 'p':
                    walk(first, depthOf(first), longPartOf(number, countOfPart(second)), level + 1);
                    walk(second, depthOf(second), longRestOf(number, countOfPart(second)), level + 1);
                    break;
                case 't':
                    walkTree(generator, depth, number, level);
                    break;
                default:
                    break;
            }
        }

        private void walkList(int generator, long number, int level) {
            int part = firsts[generator];
            long one = countOfPart(part);
            long rest = number;
            int length = 0;
            while (length < seconds[generator] && rest >= power(one, length)) {
                rest -= power(one, length);
                length++;
            }
            for (int i = length - 1; i >= 0; i--) {
                walk(part, depthOf(part), longPartOf(rest, power(one, i)), level + 1);
                rest = longRestOf(rest, power(one, i));
            }
        }

        private void walkTree(int generator, int depth, long number, int level) {
            int part = firsts[generator];
            long one = countOfPart(part);
            if (depth < 1 || number < one) {
                walk(part, depthOf(part), number, level + 1);
                return;
            }
            long below = countOfTrees(one, depth - 1);
            walk(generator, depth - 1, longPartOf(number - one, below), level + 1);
            walk(generator, depth - 1, longRestOf(number - one, below), level + 1);
        }
    }

    /** Makes inputs, by the draws of a seed or of a row. */
    private static final class Maker {
        private static final int MOST_MADE = 400;
        private static final int MOST_FILTERED = 3;

        private final Generators generators;
        private final Grammar grammar;
        private final int[] made = new int[MOST_MADE];
        private final int[] used = new int[MOST_DRAWS];
        private int size;
        private int length;
        private Input source;
        private int z;
        private boolean isOut;

        private Maker(Generators generators, Grammar grammar) {
            this.generators = generators;
            this.grammar = grammar;
        }

        /**
         * Makes an input by the draws of a row, or of a seed if there is no row. Returns false, and leaves the input
         * as it is, if what is made is discarded.
         */
        private boolean makeInto(int generator, Input row, int seed, Input input) {
            source = row;
            z = seed;
            size = 0;
            length = 0;
            isOut = false;
            make(generator, generators.depthOf(generator), 0);
            if (isOut || size > MOST_VALUES) {
                return false;
            }
            for (int i = 0; i < size; i++) {
                input.values[i] = made[i];
            }
            for (int i = 0; i < length; i++) {
                input.row[i] = used[i];
            }
            input.size = size;
            input.length = length;
            return true;
        }

        private int take() {
            if (length >= MOST_DRAWS) {
                isOut = true;
                return 0;
            }
            int draw = 0;
            if (source == null) {
                z = nextState(z);
                draw = drawOf(z);
            } else if (length < source.length) {
                draw = source.row[length];
            }
            used[length] = draw;
            length++;
            return draw;
        }

        private void addValue(int value) {
            if (size >= MOST_MADE) {
                isOut = true;
                return;
            }
            made[size] = value;
            size++;
        }

        private int sumFrom(int start) {
            int sum = 0;
            for (int i = start; i >= 0 && i < size; i++) {
                sum += made[i];
            }
            return sum;
        }

        private void make(int generator, int depth, int level) {
            if (level > MOST_LEVELS || !generators.has(generator)) {
                isOut = true;
            }
            if (isOut) {
                return;
            }
            int first = generators.firsts[generator];
            int second = generators.seconds[generator];
            int third = generators.thirds[generator];
            switch (generators.kinds[generator]) {
                case 'n':
                    addValue(first + restOf(take(), second - first + 1));
                    break;
                case 'c':
                    makePart(restOf(take(), third + 1) < third ? first : second, 1, level);
                    break;
                case 'l':
                    makePart(first, restOf(take(), second + 1), level);
                    break;
                case 'p':
                    makePart(first, 1, level);
                    makePart(second, 1, level);
                    break;
                case 'f':
                    makeFiltered(first, second, third, level);
                    break;
                case 'd':
                    makeDepending(first, second, level);
                    break;
                case 't':
                    if (depth < 1 || take() % 3 == 0) {
                        makePart(first, 1, level);
                    } else {
                        make(generator, depth - 1, level + 1);
                        make(generator, depth - 1, level + 1);
                    }
                    break;
                default:
                    int number = 256 * take();
                    number += take();
                    int letters = grammar.derive(first, second, number);
                    isOut = isOut || letters < 1;
                    for (int i = 0; i < letters && i < LONGEST_WORD; i++) {
                        addValue(grammar.letters[i]);
                    }
                    break;
            }
        }

        private void makePart(int part, int times, int level) {
            for (int i = 0; i < times && !isOut; i++) {
                make(part, generators.depthOf(part), level + 1);
            }
        }

        private void makeFiltered(int part, int modulus, int rest, int level) {
            int start = size;
            for (int i = 0; i < MOST_FILTERED && !isOut; i++) {
                size = start;
                make(part, generators.depthOf(part), level + 1);
                if (restOf(sumFrom(start), modulus) == rest) {
                    return;
                }
            }
            isOut = true;
        }

        private void makeDepending(int first, int second, int level) {
            int start = size;
            make(first, generators.depthOf(first), level + 1);
            int times = sumFrom(start) % 4;
            size = start;
            makePart(second, times, level);
        }
    }

    /** The programs, and what the last one that was executed did. */
    private static final class Programs {
        private static final int TARGETS = 17;
        private static final int MOST_STEPS = 200;
        private static final int ENDLESS = 256;
        private static final int MOST_ROUNDS = 1000;
        /** The program behind the last one is that with some changes. */
        private static final int CHANGED = MOST_PROGRAMS;

        private final int[] sizes = new int[MOST_PROGRAMS + 1];
        private final char[] kinds = new char[(MOST_PROGRAMS + 1) * MOST_INSTRUCTIONS];
        private final int[] numbers = new int[(MOST_PROGRAMS + 1) * MOST_INSTRUCTIONS];
        private final int[] targets = new int[(MOST_PROGRAMS + 1) * MOST_INSTRUCTIONS];
        private int count;
        private final int[] times = new int[EDGES];
        private final int[] edgeList = new int[EDGES];
        private int edgeCount;
        private int output;
        private int fault;
        private int last;
        private int lastButOne;
        private int lastButTwo;

        private static boolean isKind(char kind) {
            return hasNumber(kind) || hasTarget(kind) || kind == 'r' || kind == 'o';
        }

        private static boolean hasNumber(char kind) {
            return kind == '+' || kind == '*' || kind == '%' || kind == '<' || kind == '=' || kind == 'x';
        }

        private static boolean hasTarget(char kind) {
            return kind == '<' || kind == '=' || kind == 'e' || kind == 'j';
        }

        private static int edge(int from, int to) {
            return from * TARGETS + to;
        }

        private int add() {
            count++;
            return count - 1;
        }

        private int put(int program, char kind, int number, int target) {
            int at = program * MOST_INSTRUCTIONS + sizes[program];
            if (sizes[program] < MOST_INSTRUCTIONS) {
                kinds[at] = kind;
                numbers[at] = number;
                targets[at] = target;
                sizes[program]++;
            }
            return sizes[program];
        }

        private void execute(int program, Input input) {
            forgetLast();
            int size = sizes[program];
            int a = 0;
            int read = 0;
            int at = 0;
            for (int step = 0; step < MOST_STEPS && at < size; step++) {
                int place = program * MOST_INSTRUCTIONS + at;
                int k = numbers[place];
                boolean isLeading = false;
                switch (kinds[place]) {
                    case 'r':
                        a += read < input.size ? input.values[read] : 0;
                        read++;
                        break;
                    case '+':
                        a += k;
                        break;
                    case '*':
                        a *= k;
                        break;
                    case '%':
                        a = k < 0 ? 0 : Math.floorMod(a, k + 1);
                        break;
                    case '<':
                        isLeading = a < k;
                        break;
                    case '=':
                        isLeading = a == k;
                        break;
                    case 'e':
                        isLeading = read >= input.size;
                        break;
                    case 'j':
                        isLeading = true;
                        break;
                    case 'o':
                        output = 31 * output + a;
                        break;
                    default:
                        fault = k;
                        return;
                }
                at = goOn(at, isLeading ? targets[place] : at + 1, size, isLeading);
            }
            if (at < size) {
                fault = ENDLESS;
            }
        }

        private void forgetLast() {
            for (int i = 0; i < edgeCount && i < EDGES; i++) {
                times[edgeList[i]] = 0;
            }
            edgeCount = 0;
            output = 0;
            fault = -1;
            last = 0;
            lastButOne = 0;
            lastButTwo = 0;
        }

        private int goOn(int from, int target, int size, boolean isLeading) {
            if (isLeading) {
                lastButTwo = lastButOne;
                lastButOne = last;
                last = from;
            }
            int to = target < size ? target : END;
            int edge = edge(from, to);
            if (times[edge] == 0 && edgeCount < EDGES) {
                edgeList[edgeCount] = edge;
                edgeCount++;
            }
            times[edge]++;
            return to;
        }

        private int faultClass() {
            return fault * 4096 + last * 256 + lastButOne * 16 + lastButTwo;
        }

        private int levelOf(int edge) {
            int often = times[edge];
            return often <= 3 ? often : often <= 7 ? 4 : 5;
        }

        /** The k of the instruction of a number among those that compare, counted round; -1 if there are none. */
        private int comparedNumber(int program, int number) {
            int comparing = 0;
            for (int i = 0; i < sizes[program]; i++) {
                comparing += isComparing(program * MOST_INSTRUCTIONS + i) ? 1 : 0;
            }
            int left = restOf(number, comparing);
            for (int i = 0; i < sizes[program]; i++) {
                int at = program * MOST_INSTRUCTIONS + i;
                if (isComparing(at)) {
                    if (left == 0) {
                        return numbers[at] & 255;
                    }
                    left--;
                }
            }
            return -1;
        }

        private boolean isComparing(int at) {
            return kinds[at] == '<' || kinds[at] == '=';
        }

        /** The changes between two programs, as a sum of 2 to the power of each changed instruction. */
        private int changes(int first, int second) {
            int changed = 0;
            for (int i = 0; i < sizes[first]; i++) {
                int one = first * MOST_INSTRUCTIONS + i;
                int other = second * MOST_INSTRUCTIONS + i;
                if (kinds[one] != kinds[other] || numbers[one] != numbers[other] || targets[one] != targets[other]) {
                    changed |= 1 << i;
                }
            }
            return changed;
        }

        private boolean isBreaking(int first, int second, int set, Input input) {
            sizes[CHANGED] = 0;
            for (int i = 0; i < sizes[first]; i++) {
                int at = ((set >> i & 1) == 1 ? second : first) * MOST_INSTRUCTIONS + i;
                put(CHANGED, kinds[at], numbers[at], targets[at]);
            }
            execute(CHANGED, input);
            return fault >= 0;
        }

        private int leastSet(int first, int second, int all, Input input) {
            int set = all;
            int parts = 2;
            for (int round = 0; round < MOST_ROUNDS && Integer.bitCount(set) > 1; round++) {
                int size = Integer.bitCount(set);
                int part = breakingPart(first, second, set, parts, input);
                int rest = part != 0 ? 0 : breakingRest(first, second, set, parts, input);
                if (part != 0) {
                    set = part;
                    parts = 2;
                } else if (rest != 0) {
                    set = rest;
                    parts = Math.max(2, parts - 1);
                } else if (parts >= size) {
                    break;
                } else {
                    parts = Math.min(size, 2 * parts);
                }
            }
            return set;
        }

        private int breakingPart(int first, int second, int set, int parts, Input input) {
            for (int i = 0; i < parts; i++) {
                int part = partOfSet(set, parts, i);
                if (part != 0 && isBreaking(first, second, part, input)) {
                    return part;
                }
            }
            return 0;
        }

        private int breakingRest(int first, int second, int set, int parts, Input input) {
            for (int i = 0; i < parts; i++) {
                int rest = set & ~partOfSet(set, parts, i);
                if (rest != set && rest != 0 && isBreaking(first, second, rest, input)) {
                    return rest;
                }
            }
            return 0;
        }

        private static int partOfSet(int set, int parts, int number) {
            int size = Integer.bitCount(set);
            int greater = restOf(size, parts);
            int least = parts < 1 ? 0 : size / parts;
            int start = number * least + Math.min(number, greater);
            int end = start + least + (number < greater ? 1 : 0);
            int part = 0;
            int passed = 0;
            for (int i = 0; i < MOST_INSTRUCTIONS; i++) {
                if ((set >> i & 1) == 1) {
                    part |= passed >= start && passed < end ? 1 << i : 0;
                    passed++;
                }
            }
            return part;
        }
    }

    /** The properties, their preconditions, and how inputs break them. */
    private static final class Properties {
        private static final int OTHER_OUTPUT = 1;
        private static final int ONE_FAULT = 2;
        private static final int OTHER_FAULT = 3;
        private static final int HELD = -1;

        private final Programs programs;
        private final char[] kinds = new char[MOST_PROPERTIES];
        private final int[] firsts = new int[MOST_PROPERTIES];
        private final int[] seconds = new int[MOST_PROPERTIES];
        private final int[] moduli = new int[MOST_PROPERTIES];
        private final int[] rests = new int[MOST_PROPERTIES];
        private int count;

        private Properties(Programs programs) {
            this.programs = programs;
        }

        private int add(char kind, int first, int second) {
            if (count >= MOST_PROPERTIES) {
                return count;
            }
            kinds[count] = kind;
            firsts[count] = first;
            seconds[count] = second;
            moduli[count] = 1;
            rests[count] = 0;
            count++;
            return count - 1;
        }

        private int restrict(int property, int modulus, int rest) {
            int before = 10 * moduli[property] + rests[property];
            moduli[property] = modulus;
            rests[property] = rest;
            return before;
        }

        private boolean isMet(int property, Input input) {
            return restOf(input.sum(), moduli[property]) == rests[property];
        }

        /** The class of the break of a property by an input, below 0 if it holds. */
        private int breakOf(int property, Input input) {
            int first = firsts[property];
            switch (kinds[property]) {
                case 's':
                    return input.sum() <= first ? HELD : 0;
                case 'o':
                    return isRising(input) ? HELD : 0;
                case 'u':
                    return isUnlike(input) ? HELD : 0;
                case 'p':
                    programs.execute(first, input);
                    return programs.fault < 0 ? HELD : programs.faultClass();
                default:
                    return differenceOf(first, seconds[property], input);
            }
        }

        private static boolean isRising(Input input) {
            for (int i = 1; i < input.size; i++) {
                if (input.values[i] < input.values[i - 1]) {
                    return false;
                }
            }
            return true;
        }

        private static boolean isUnlike(Input input) {
            for (int i = 0; i < input.size; i++) {
                for (int j = 0; j < i; j++) {
                    if (input.values[i] == input.values[j]) {
                        return false;
                    }
                }
            }
            return true;
        }

        private int differenceOf(int first, int second, Input input) {
            programs.execute(first, input);
            int fault = programs.fault;
            int output = programs.output;
            programs.execute(second, input);
            if (fault < 0 && programs.fault < 0) {
                return output == programs.output ? HELD : OTHER_OUTPUT;
            }
            if (fault < 0 || programs.fault < 0) {
                return ONE_FAULT;
            }
            return fault == programs.fault ? HELD : OTHER_FAULT;
        }
    }

    /** The failure, and how it is shrunk. */
    private static final class Failure {
        /** The ways 0 to 3 leave out 8, 4, 2 and 1 draws; the others follow them. */
        private static final int LOWER = 4;
        private static final int EXCHANGED = 5;
        private static final int LOWER_TWICE = 6;
        private static final int WAYS = 7;
        private static final int MOST_STEPS = 10000;

        private final Maker maker;
        private final Properties properties;
        private final Input kept = new Input();
        private final Input candidate = new Input();
        private final Input replayed = new Input();
        private boolean isThere;
        private boolean isStale;
        private int generator;
        private int property;
        private int broken;
        private int way;
        private int step;

        private Failure(Maker maker, Properties properties) {
            this.maker = maker;
            this.properties = properties;
        }

        private void keep(Input input, int ofGenerator, int ofProperty, int ofClass) {
            kept.become(input);
            generator = ofGenerator;
            property = ofProperty;
            broken = ofClass;
            isThere = true;
            isStale = false;
        }

        /** Replays a row, and returns whether it breaks as the failure does. */
        private boolean isBroken(Input row) {
            return maker.makeInto(generator, row, 0, replayed)
                    && properties.isMet(property, replayed)
                    && properties.breakOf(property, replayed) == broken;
        }

        private boolean isReplayable() {
            return !isThere || isStale || maker.makeInto(generator, kept, 0, replayed);
        }

        private int shrinkBy(int tries) {
            beginAnew();
            for (int i = 0; i < tries && hasNext(); i++) {
                if (isBroken(candidate) && replayed.isLess(kept)) {
                    kept.become(replayed);
                    isStale = false;
                    beginAnew();
                }
            }
            return kept.length;
        }

        private void beginAnew() {
            way = 0;
            step = 0;
        }

        /** Goes on to the next candidate, and returns whether there is one. */
        private boolean hasNext() {
            for (int i = 0; i < MOST_STEPS && way < WAYS; i++) {
                int at = step;
                step++;
                if (at >= stepsOf(way)) {
                    way++;
                    step = 0;
                } else if (makeCandidate(way, at)) {
                    return true;
                }
            }
            return false;
        }

        private int stepsOf(int byWay) {
            switch (byWay) {
                case LOWER:
                    return 3 * kept.length;
                case EXCHANGED:
                    return kept.length - 1;
                case LOWER_TWICE:
                    return kept.length * kept.length;
                default:
                    return kept.length - leftOut(byWay) + 1;
            }
        }

        private static int leftOut(int byWay) {
            return 8 >> byWay;
        }

        /** Makes the candidate of a step, and returns whether there is one. */
        private boolean makeCandidate(int byWay, int at) {
            switch (byWay) {
                case LOWER:
                    return lower(at / 3, at % 3);
                case EXCHANGED:
                    return exchange(at, at + 1);
                case LOWER_TWICE:
                    return kept.length > 0 && lowerTwice(at / kept.length, at % kept.length);
                default:
                    return shorten(kept.length - leftOut(byWay) - at, leftOut(byWay));
            }
        }

        private boolean shorten(int place, int by) {
            candidate.becomeRow(kept);
            for (int i = place; i >= 0 && i + by < kept.length; i++) {
                candidate.row[i] = kept.row[i + by];
            }
            candidate.length = kept.length - by;
            return true;
        }

        private boolean lower(int place, int how) {
            int draw = kept.row[place];
            if (draw == 0) {
                return false;
            }
            candidate.becomeRow(kept);
            candidate.row[place] = how == 0 ? 0 : how == 1 ? draw / 2 : draw - 1;
            return true;
        }

        private boolean exchange(int place, int next) {
            if (kept.row[place] <= kept.row[next]) {
                return false;
            }
            candidate.becomeRow(kept);
            candidate.row[place] = kept.row[next];
            candidate.row[next] = kept.row[place];
            return true;
        }

        private boolean lowerTwice(int first, int second) {
            if (first >= second || kept.row[first] == 0 || kept.row[second] == 0) {
                return false;
            }
            candidate.becomeRow(kept);
            candidate.row[first]--;
            candidate.row[second]--;
            return true;
        }
    }

    /** The last run, and how many there were. */
    private static final class Trial {
        private final Maker maker;
        private final Properties properties;
        private final Failure failure;
        private final Input made = new Input();
        private final int[] labels = new int[4];
        private final int[] sizes = new int[MOST_RUN];
        private final int[] values = new int[MOST_RUN * MOST_VALUES];
        private int kept;
        private int good;
        private int dropped;
        private int runs;
        private int breaks;

        private Trial(Maker maker, Properties properties, Failure failure) {
            this.maker = maker;
            this.properties = properties;
            this.failure = failure;
        }

        private char test(int property, int generator, int seed, int many, int discards) {
            begin();
            // Each input but the last one is counted as good or as discarded.
            for (int i = 0; i < many + discards; i++) {
                if (!maker.makeInto(generator, null, seed + i, made) || !properties.isMet(property, made)) {
                    dropped++;
                    if (dropped > discards) {
                        return 'g';
                    }
                    continue;
                }
                keepValues();
                int broken = properties.breakOf(property, made);
                if (broken >= 0) {
                    breaks++;
                    failure.keep(made, generator, property, broken);
                    return 'b';
                }
                good++;
                labels[made.size < 2 ? made.size : made.size < 4 ? 2 : 3]++;
                if (good >= many) {
                    return 'o';
                }
            }
            return 'o';
        }

        private void begin() {
            runs++;
            kept = 0;
            good = 0;
            dropped = 0;
            for (int i = 0; i < labels.length; i++) {
                labels[i] = 0;
            }
        }

        private void keepValues() {
            if (kept >= MOST_RUN) {
                return;
            }
            sizes[kept] = made.size;
            for (int i = 0; i < made.size && i < MOST_VALUES; i++) {
                values[kept * MOST_VALUES + i] = made.values[i];
            }
            kept++;
        }

        private int singles() {
            int count = 0;
            for (int i = 0; i < kept; i++) {
                count += isSingle(i) ? 1 : 0;
            }
            return count;
        }

        private boolean isSingle(int input) {
            for (int i = 0; i < kept; i++) {
                if (i != input && isAlike(i, input)) {
                    return false;
                }
            }
            return true;
        }

        private boolean isAlike(int one, int other) {
            if (sizes[one] != sizes[other]) {
                return false;
            }
            for (int i = 0; i < sizes[one] && i < MOST_VALUES; i++) {
                if (values[one * MOST_VALUES + i] != values[other * MOST_VALUES + i]) {
                    return false;
                }
            }
            return true;
        }
    }

    /** The last guided search: its corpus, the levels that it saw, and the classes of faults that it found. */
    private static final class Search {
        private static final int MOST_ROWS = 20;
        private static final int MOST_CLASSES = 10;
        /** Each instruction leads to two others at most. */
        private static final int MOST_EDGES = 32;
        private static final int ENERGY = 60;
        private static final int WEARINESS = 10;

        private final Maker maker;
        private final Programs programs;
        private final Input tried = new Input();
        private final Input changed = new Input();
        private final Input[] corpus = new Input[MOST_ROWS];
        private final int[] chosen = new int[MOST_ROWS];
        private final int[] edgeCounts = new int[MOST_ROWS];
        private final int[] edges = new int[MOST_ROWS * MOST_EDGES];
        private final int[] rowsWith = new int[EDGES];
        /** By edge, a bit for each level that was seen. */
        private final int[] seen = new int[EDGES];
        private final int[] classes = new int[MOST_CLASSES];
        private final Input[] leastRows = new Input[MOST_CLASSES];
        private int rows;
        private int found;
        private int covered;
        private int program;
        private int generator;
        private int z;
        private boolean isStale;

        private Search(Maker maker, Programs programs) {
            this.maker = maker;
            this.programs = programs;
            for (int i = 0; i < MOST_ROWS; i++) {
                corpus[i] = new Input();
            }
            for (int i = 0; i < MOST_CLASSES; i++) {
                leastRows[i] = new Input();
            }
        }

        private int begin(int ofProgram, int byGenerator, int seed, int rounds) {
            clear();
            program = ofProgram;
            generator = byGenerator;
            z = seed;
            if (maker.makeInto(generator, null, seed, tried)) {
                look();
                keepTried();
                for (int i = 0; i < rounds; i++) {
                    playRound();
                }
            }
            return rows;
        }

        private void clear() {
            rows = 0;
            found = 0;
            covered = 0;
            isStale = false;
            for (int i = 0; i < EDGES; i++) {
                rowsWith[i] = 0;
                seen[i] = 0;
            }
        }

        private int takeNumber() {
            z = nextState(z);
            return drawOf(z);
        }

        private void playRound() {
            int row = strongest();
            chosen[row]++;
            int how = takeNumber() % 4;
            int second = takeNumber();
            int third = takeNumber();
            change(corpus[row], how, second, third);
            if (maker.makeInto(generator, changed, 0, tried) && look() && rows < MOST_ROWS) {
                keepTried();
            }
        }

        private int strongest() {
            int best = 0;
            int most = energyOf(best);
            for (int i = 1; i < rows; i++) {
                int energy = energyOf(i);
                if (energy > most) {
                    best = i;
                    most = energy;
                }
            }
            return best;
        }

        private int energyOf(int row) {
            int energy = 0;
            for (int i = 0; i < edgeCounts[row] && i < MOST_EDGES; i++) {
                int with = rowsWith[edges[row * MOST_EDGES + i]];
                energy += with < 1 ? 0 : ENERGY / with;
            }
            return energy - WEARINESS * chosen[row];
        }

        private void change(Input row, int how, int second, int third) {
            changed.becomeRow(row);
            int place = restOf(second, how == 1 ? row.length + 1 : row.length);
            switch (how) {
                case 0:
                    replaceDraw(place, third);
                    break;
                case 1:
                    putIn(place, third);
                    break;
                case 2:
                    crossOver(corpus[restOf(third, rows)], place);
                    break;
                default:
                    replaceDraw(place, programs.comparedNumber(program, third));
                    break;
            }
        }

        private void replaceDraw(int place, int draw) {
            if (place < changed.length && draw >= 0) {
                changed.row[place] = draw;
            }
        }

        private void putIn(int place, int draw) {
            if (changed.length >= MOST_DRAWS) {
                return;
            }
            for (int i = changed.length; i > place; i--) {
                changed.row[i] = changed.row[i - 1];
            }
            changed.row[place] = draw;
            changed.length++;
        }

        private void crossOver(Input other, int place) {
            for (int i = place; i < other.length && i < MOST_DRAWS; i++) {
                changed.row[i] = other.row[i];
            }
            changed.length = Math.max(place, other.length);
        }

        /** Executes the program, counts its fault, and returns whether an edge has a level that was not seen. */
        private boolean look() {
            programs.execute(program, tried);
            boolean isNew = false;
            for (int i = 0; i < programs.edgeCount; i++) {
                int edge = programs.edgeList[i];
                int bit = 1 << programs.levelOf(edge);
                if ((seen[edge] & bit) == 0) {
                    seen[edge] |= bit;
                    covered++;
                    isNew = true;
                }
            }
            if (programs.fault >= 0) {
                classify(programs.faultClass());
            }
            return isNew;
        }

        private void classify(int ofClass) {
            for (int i = 0; i < found; i++) {
                if (classes[i] == ofClass) {
                    if (tried.isLess(leastRows[i])) {
                        leastRows[i].become(tried);
                    }
                    return;
                }
            }
            if (found < MOST_CLASSES) {
                classes[found] = ofClass;
                leastRows[found].become(tried);
                found++;
            }
        }

        /** Puts the row that was tried behind the corpus, with the edges that the program has just had. */
        private void keepTried() {
            corpus[rows].become(tried);
            chosen[rows] = 0;
            edgeCounts[rows] = Math.min(MOST_EDGES, programs.edgeCount);
            for (int i = 0; i < edgeCounts[rows]; i++) {
                edges[rows * MOST_EDGES + i] = programs.edgeList[i];
                rowsWith[programs.edgeList[i]]++;
            }
            rows++;
        }

        private boolean isKeepingClasses() {
            for (int i = 0; i < found && !isStale; i++) {
                if (!maker.makeInto(generator, leastRows[i], 0, tried)) {
                    return false;
                }
                programs.execute(program, tried);
                if (programs.fault < 0 || programs.faultClass() != classes[i]) {
                    return false;
                }
            }
            return true;
        }
    }

    /** A queue under test and its model, and the commands that both run. */
    private static final class Commands {
        private static final int MOST_ROOM = 4;
        private static final int SIZE_DEFECT = 1;
        private static final int TAKE_DEFECT = 2;
        private static final int PUT_DEFECT = 3;
        private static final int MOST_TRIED = 1000;

        private int room = 1;
        private int defect;
        private final int[] kinds = new int[MOST_COMMANDS];
        private final int[] numbers = new int[MOST_COMMANDS];
        private int size;
        private final int[] fewerKinds = new int[MOST_COMMANDS];
        private final int[] fewerNumbers = new int[MOST_COMMANDS];
        private int fewer;
        private final int[] places = new int[MOST_COMMANDS];
        private final int[] ofModel = new int[MOST_COMMANDS];
        private final int[] ofQueue = new int[MOST_COMMANDS];
        private final int[] held = new int[MOST_ROOM];
        private int heldCount;

        private int begin(int ofRoom, int ofDefect) {
            int before = size;
            room = ofRoom;
            defect = ofDefect;
            size = 0;
            return before;
        }

        private int add(int kind, int number) {
            if (size >= MOST_COMMANDS) {
                return size;
            }
            kinds[size] = kind;
            numbers[size] = number;
            size++;
            return size - 1;
        }

        private int answerOf(int command, boolean isOfModel) {
            breakOf(kinds, numbers, size);
            return isOfModel ? ofModel[command] : ofQueue[command];
        }

        private int firstBreak() {
            return breakOf(kinds, numbers, size);
        }

        /** Runs commands, and returns the first one whose answers differ, -1 if none does. */
        private int breakOf(int[] theKinds, int[] theNumbers, int count) {
            answerAll(theKinds, theNumbers, count, 0, ofModel);
            answerAll(theKinds, theNumbers, count, defect, ofQueue);
            for (int i = 0; i < count && i < MOST_COMMANDS; i++) {
                if (ofModel[i] != ofQueue[i]) {
                    return i;
                }
            }
            return -1;
        }

        private void answerAll(int[] theKinds, int[] theNumbers, int count, int by, int[] answers) {
            heldCount = 0;
            for (int i = 0; i < count && i < MOST_COMMANDS; i++) {
                int number = theNumbers[i];
                switch (theKinds[i]) {
                    case 0:
                        answers[i] = put(number, by);
                        break;
                    case 1:
                        answers[i] = takeOut(by);
                        break;
                    case 2:
                        answers[i] = by == SIZE_DEFECT && heldCount == room ? 0 : heldCount;
                        break;
                    default:
                        answers[i] = put(number >= 0 && number < i ? Math.max(0, answers[number]) : 0, by);
                        break;
                }
            }
        }

        private int put(int number, int by) {
            if (heldCount < room && heldCount < MOST_ROOM) {
                held[heldCount] = number;
                heldCount++;
                return 0;
            }
            if (by != PUT_DEFECT) {
                return -1;
            }
            held[0] = number;
            return 0;
        }

        private int takeOut(int by) {
            if (heldCount < 1) {
                return -1;
            }
            int at = by == TAKE_DEFECT && heldCount == room ? heldCount - 1 : 0;
            int taken = held[at];
            for (int i = at; i + 1 < heldCount && i + 1 < MOST_ROOM; i++) {
                held[i] = held[i + 1];
            }
            heldCount--;
            return taken;
        }

        private int leaveOutAll() {
            int at = size - 1;
            for (int i = 0; i < MOST_TRIED && at >= 0; i++) {
                leaveOut(at);
                if (breakOf(fewerKinds, fewerNumbers, fewer) >= 0) {
                    becomeFewer();
                    at = size - 1;
                } else {
                    at--;
                }
            }
            return size;
        }

        private void leaveOut(int command) {
            fewer = 0;
            for (int i = 0; i < size && i < MOST_COMMANDS; i++) {
                boolean isNaming = kinds[i] == 3;
                int number = isNaming ? placeOf(numbers[i]) : numbers[i];
                if (i == command || isNaming && number < 0) {
                    places[i] = -1;
                } else {
                    places[i] = fewer;
                    fewerKinds[fewer] = kinds[i];
                    fewerNumbers[fewer] = number;
                    fewer++;
                }
            }
        }

        private int placeOf(int command) {
            return command >= 0 && command < MOST_COMMANDS ? places[command] : -1;
        }

        private void becomeFewer() {
            size = fewer;
            for (int i = 0; i < size && i < MOST_COMMANDS; i++) {
                kinds[i] = fewerKinds[i];
                numbers[i] = fewerNumbers[i];
            }
        }
    }

    /** Two rows of commands side by side. */
    private static final class Sides {
        private static final int PLACES = MOST_BESIDE + 1;

        private final int[] kinds = new int[2 * MOST_BESIDE];
        private final int[] addends = new int[2 * MOST_BESIDE];
        private final int[] sizes = new int[2];
        private final int[] answers = new int[2 * MOST_BESIDE];
        private final int[] at = new int[2];
        private final boolean[] hasRead = new boolean[2];
        private int number;
        /** By row, and by how many of its commands came: what they add together. */
        private final int[] sums = new int[2 * PLACES];
        private final boolean[] isReached = new boolean[PLACES * PLACES];

        private int add(int row, int kind, int addend) {
            if (sizes[row] < MOST_BESIDE) {
                kinds[row * MOST_BESIDE + sizes[row]] = kind;
                addends[row * MOST_BESIDE + sizes[row]] = addend;
                sizes[row]++;
            }
            return sizes[row];
        }

        private int clear() {
            int before = sizes[0] + sizes[1];
            sizes[0] = 0;
            sizes[1] = 0;
            return before;
        }

        private int steps() {
            int steps = 0;
            for (int row = 0; row < 2; row++) {
                for (int i = 0; i < sizes[row]; i++) {
                    steps += kinds[row * MOST_BESIDE + i] == 1 ? 2 : 1;
                }
            }
            return steps;
        }

        private int answerBy(int bits, int row, int command) {
            follow(bits);
            return answers[row * MOST_BESIDE + command];
        }

        private boolean isOrdered(int bits) {
            follow(bits);
            return isLikeAnOrder();
        }

        private void follow(int bits) {
            number = 0;
            for (int row = 0; row < 2; row++) {
                at[row] = 0;
                hasRead[row] = false;
            }
            int steps = steps();
            for (int step = 0; step < steps; step++) {
                int turn = step < 32 ? bits >>> step & 1 : 0;
                goOn(at[turn] < sizes[turn] ? turn : 1 - turn);
            }
        }

        private void goOn(int row) {
            if (at[row] >= sizes[row]) {
                return;
            }
            int command = row * MOST_BESIDE + at[row];
            if (hasRead[row]) {
                number = answers[command] + addends[command];
                hasRead[row] = false;
                at[row]++;
                return;
            }
            answers[command] = number;
            if (kinds[command] == 1) {
                hasRead[row] = true;
            } else {
                at[row]++;
            }
        }

        /**
         * Whole commands add up alike in every order: so what one of them reads is known from how many of each row
         * came before it, and the last number of all orders is the same.
         */
        private boolean isLikeAnOrder() {
            addUp();
            int all = sums[sizes[0]] + sums[PLACES + sizes[1]];
            if (number != all) {
                return false;
            }
            for (int i = 0; i <= sizes[0]; i++) {
                for (int j = 0; j <= sizes[1]; j++) {
                    isReached[i * PLACES + j] = i == 0 && j == 0 || isReachedBehind(i, j);
                }
            }
            return isReached[sizes[0] * PLACES + sizes[1]];
        }

        private void addUp() {
            for (int row = 0; row < 2; row++) {
                sums[row * PLACES] = 0;
                for (int i = 0; i < sizes[row]; i++) {
                    sums[row * PLACES + i + 1] = sums[row * PLACES + i] + addends[row * MOST_BESIDE + i];
                }
            }
        }

        private boolean isReachedBehind(int i, int j) {
            if (i > 0 && isReached[(i - 1) * PLACES + j] && answers[i - 1] == sums[i - 1] + sums[PLACES + j]) {
                return true;
            }
            return j > 0 && isReached[i * PLACES + j - 1]
                    && answers[MOST_BESIDE + j - 1] == sums[i] + sums[PLACES + j - 1];
        }
    }
}
