import java.math.BigInteger;
import java.util.ArrayDeque;
import java.util.ArrayList;
import java.util.Arrays;
import java.util.Collections;
import java.util.HashMap;
import java.util.HashSet;
import java.util.LinkedHashMap;
import java.util.List;
import java.util.Map;
import java.util.NoSuchElementException;
import java.util.Set;
import java.util.TreeSet;

/**
 * The document once more, written with lists, sets and big numbers and without a thought of speed or room:
 * what AgreementTest holds Shrinkery against.
 */
public final class NaiveHouse {
    private static final BigInteger CAP = BigInteger.valueOf(1000000000);

    private static final class Discarded extends RuntimeException {
        private static final long serialVersionUID = 1;
    }

    private static final class Made {
        List<Integer> values = new ArrayList<>();
        List<Integer> row = new ArrayList<>();
    }

    private record Gen(char kind, int a, int b, int c) { }

    private record Instruction(char kind, int k, int t) { }

    private static final class Outcome {
        int fault = -1;
        int output;
        List<Integer> jumps = new ArrayList<>();
        Map<List<Integer>, Integer> edges = new LinkedHashMap<>();

        int jump(int back) {
            return jumps.size() > back ? jumps.get(jumps.size() - 1 - back) : 0;
        }

        int type() {
            return fault * 4096 + 256 * jump(0) + 16 * jump(1) + jump(2);
        }

        int level(List<Integer> edge) {
            int n = edges.getOrDefault(edge, 0);
            return n < 4 ? n : n < 8 ? 4 : 5;
        }
    }

    private static final class Property {
        char kind;
        int k;
        int other;
        int m = 1;
        int rest;
    }

    private final List<Gen> gens = new ArrayList<>();
    private final List<List<Instruction>> programs = new ArrayList<>();
    private final List<Property> properties = new ArrayList<>();
    private final List<List<List<Integer>>> grammar = new ArrayList<>();
    private final List<Integer> typed = new ArrayList<>();
    private Made input;

    private int good;
    private int dropped;
    private List<Integer> goodSizes = new ArrayList<>();
    private List<List<Integer>> runRows = new ArrayList<>();
    private int runs;
    private int breaks;

    private Made failure;
    private int failureGen;
    private int failureProperty;
    private int failureClass;

    private final List<Made> corpus = new ArrayList<>();
    private final List<Set<List<Integer>>> corpusEdges = new ArrayList<>();
    private final List<Integer> chosen = new ArrayList<>();
    private final Set<List<Integer>> seen = new HashSet<>();
    private final List<Integer> found = new ArrayList<>();
    private final Map<Integer, List<Integer>> leastRows = new HashMap<>();

    private int room = 1;
    private int defect;
    private List<int[]> commands = new ArrayList<>();
    private final List<List<int[]>> sides = List.of(new ArrayList<>(), new ArrayList<>());

    public NaiveHouse() {
        for (int i = 0; i < 6; i++) {
            grammar.add(new ArrayList<>());
        }
    }

    /** How many there are of what a letter or word names, so that a test can name one that there is. */
    int sizeOf(String what) {
        return switch (what) {
            case "g" -> gens.size();
            case "p" -> programs.size();
            case "y" -> properties.size();
            case "c" -> commands.size();
            case "value" -> input == null ? 0 : input.values.size();
            case "draw" -> draws();
            case "fdraw" -> failure == null ? 0 : failure.row.size();
            case "fvalue" -> failure == null ? 0 : failure.values.size();
            case "row" -> corpus.size();
            case "found" -> found.size();
            default -> 0;
        };
    }

    // ---- checks

    private static void iae(boolean wrong) {
        if (wrong) {
            throw new IllegalArgumentException();
        }
    }

    private static void ioobe(boolean wrong) {
        if (wrong) {
            throw new IndexOutOfBoundsException();
        }
    }

    private static void ise(boolean wrong) {
        if (wrong) {
            throw new IllegalStateException();
        }
    }

    private static void nsee(boolean wrong) {
        if (wrong) {
            throw new NoSuchElementException();
        }
    }

    private static void uoe(boolean wrong) {
        if (wrong) {
            throw new UnsupportedOperationException();
        }
    }

    private static boolean out(int n, int least, int most) {
        return n < least || n > most;
    }

    private void gen(int g) {
        ioobe(g < 0 || g >= gens.size());
    }

    private void prog(int p) {
        ioobe(p < 0 || p >= programs.size());
    }

    private int addGen(char kind, int a, int b, int c) {
        ise(gens.size() == 16);
        gens.add(new Gen(kind, a, b, c));
        return gens.size() - 1;
    }

    // ---- generators

    public int number(int least, int greatest) {
        iae(out(least, 0, 255) || out(greatest, 0, 255) || greatest < least);
        return addGen('n', least, greatest, 0);
    }

    public int choice(int first, int second, int weight) {
        gen(first);
        gen(second);
        iae(out(weight, 1, 9));
        return addGen('c', first, second, weight);
    }

    public int list(int of, int most) {
        gen(of);
        iae(out(most, 0, 8));
        return addGen('l', of, most, 0);
    }

    public int pair(int first, int second) {
        gen(first);
        gen(second);
        return addGen('p', first, second, 0);
    }

    public int filter(int of, int modulus, int rest) {
        gen(of);
        iae(out(modulus, 2, 9) || rest < 0 || rest >= modulus);
        return addGen('f', of, modulus, rest);
    }

    public int depends(int first, int second) {
        gen(first);
        gen(second);
        return addGen('d', first, second, 0);
    }

    public int tree(int of, int depth) {
        gen(of);
        iae(out(depth, 0, 4));
        return addGen('t', of, depth, 0);
    }

    public int word(int nonterminal, int length) {
        iae(out(nonterminal, 0, 5) || out(length, 1, 12));
        return addGen('g', nonterminal, length, 0);
    }

    public char kindOf(int generator) {
        gen(generator);
        return gens.get(generator).kind;
    }

    // ---- making

    private interface Source {
        int next();
    }

    private static Source seeded(int seed) {
        int[] z = {seed};
        return () -> {
            z[0] = z[0] * 1103515245 + 12345;
            return (z[0] >> 16) & 0xff;
        };
    }

    private static Source rowed(List<Integer> row) {
        int[] at = {0};
        return () -> at[0] < row.size() ? row.get(at[0]++) : 0;
    }

    private final class Making {
        final Source source;
        final List<Integer> used = new ArrayList<>();

        Making(Source source) {
            this.source = source;
        }

        int draw() {
            if (used.size() == 60) {
                throw new Discarded();
            }
            int d = source.next();
            used.add(d);
            return d;
        }

        List<Integer> make(int g) {
            Gen gen = gens.get(g);
            List<Integer> all = new ArrayList<>();
            switch (gen.kind) {
                case 'n' -> all.add(gen.a + draw() % (gen.b - gen.a + 1));
                case 'c' -> all.addAll(make(draw() % (gen.c + 1) < gen.c ? gen.a : gen.b));
                case 'l' -> {
                    int times = draw() % (gen.b + 1);
                    for (int i = 0; i < times; i++) {
                        all.addAll(make(gen.a));
                    }
                }
                case 'p' -> {
                    all.addAll(make(gen.a));
                    all.addAll(make(gen.b));
                }
                case 'f' -> {
                    for (int i = 0; i < 3; i++) {
                        List<Integer> one = make(gen.a);
                        if (sum(one) % gen.b == gen.c) {
                            return one;
                        }
                    }
                    throw new Discarded();
                }
                case 'd' -> {
                    int times = sum(make(gen.a)) % 4;
                    for (int i = 0; i < times; i++) {
                        all.addAll(make(gen.b));
                    }
                }
                case 't' -> all.addAll(makeTree(gen.a, gen.b));
                default -> {
                    int d = draw();
                    int e = draw();
                    BigInteger count = countWords(gen.a, gen.b).min(CAP);
                    if (count.signum() == 0) {
                        throw new Discarded();
                    }
                    all.addAll(wordOf(gen.a, gen.b, BigInteger.valueOf(256 * d + e).mod(count)));
                }
            }
            return all;
        }

        List<Integer> makeTree(int part, int depth) {
            if (depth == 0 || draw() % 3 == 0) {
                return make(part);
            }
            List<Integer> all = new ArrayList<>(makeTree(part, depth - 1));
            all.addAll(makeTree(part, depth - 1));
            return all;
        }
    }

    /** The input that is made, null if it is discarded. */
    private Made make(int generator, Source source) {
        Making making = new Making(source);
        Made made = new Made();
        try {
            made.values = making.make(generator);
        } catch (Discarded e) {
            return null;
        }
        made.row = making.used;
        return made.values.size() > 40 ? null : made;
    }

    private static int sum(List<Integer> values) {
        return values.stream().mapToInt(Integer::intValue).sum();
    }

    public int draw(int generator, int seed) {
        gen(generator);
        Made made = make(generator, seeded(seed));
        nsee(made == null);
        input = made;
        return made.values.size();
    }

    public int type(int draw) {
        iae(out(draw, 0, 255));
        ise(typed.size() == 60);
        typed.add(draw);
        return typed.size();
    }

    public int erase() {
        int n = typed.size();
        typed.clear();
        return n;
    }

    public int replay(int generator) {
        gen(generator);
        Made made = make(generator, rowed(typed));
        nsee(made == null);
        input = made;
        return made.values.size();
    }

    public int value(int index) {
        ioobe(input == null || index < 0 || index >= input.values.size());
        return input.values.get(index);
    }

    public int draws() {
        return input == null ? 0 : input.row.size();
    }

    public int drawAt(int index) {
        ioobe(index < 0 || index >= draws());
        return input.row.get(index);
    }

    // ---- all inputs, counted without an upper limit

    private final Map<List<Integer>, BigInteger> countedInputs = new HashMap<>();

    private BigInteger count(int g, int depth) {
        BigInteger known = countedInputs.get(List.of(g, depth));
        if (known == null) {
            known = countAnew(g, depth);
            countedInputs.put(List.of(g, depth), known);
        }
        return known;
    }

    private BigInteger countAnew(int g, int depth) {
        Gen gen = gens.get(g);
        switch (gen.kind) {
            case 'n':
                return BigInteger.valueOf(gen.b - gen.a + 1);
            case 'c':
                return count(gen.a).add(count(gen.b));
            case 'p':
                return count(gen.a).multiply(count(gen.b));
            case 'l':
                BigInteger sum = BigInteger.ZERO;
                for (int i = 0; i <= gen.b; i++) {
                    sum = sum.add(power(gen.a, i));
                }
                return sum;
            case 't':
                BigInteger two = depth == 0 ? BigInteger.ZERO : count(g, depth - 1);
                return count(gen.a).add(limit(two.multiply(two)));
            default:
                throw new UnsupportedOperationException();
        }
    }

    /** So large that no number of an int reaches it, and small enough to reckon with. */
    private static BigInteger limit(BigInteger count) {
        return count.min(BigInteger.ONE.shiftLeft(200));
    }

    private BigInteger count(int g) {
        return limit(count(g, gens.get(g).b));
    }

    private BigInteger power(int g, int exponent) {
        return limit(count(g).pow(exponent));
    }

    private boolean isCounted(int g) {
        Gen gen = gens.get(g);
        return switch (gen.kind) {
            case 'n' -> true;
            case 'c', 'p' -> isCounted(gen.a) && isCounted(gen.b);
            case 'l', 't' -> isCounted(gen.a);
            default -> false;
        };
    }

    private List<Integer> unrank(int g, int depth, BigInteger number) {
        Gen gen = gens.get(g);
        List<Integer> all = new ArrayList<>();
        switch (gen.kind) {
            case 'n' -> all.add(gen.a + number.intValueExact());
            case 'c' -> {
                BigInteger one = count(gen.a);
                all.addAll(number.compareTo(one) < 0 ? unrank(gen.a, number) : unrank(gen.b, number.subtract(one)));
            }
            case 'p' -> {
                BigInteger[] both = number.divideAndRemainder(count(gen.b));
                all.addAll(unrank(gen.a, both[0]));
                all.addAll(unrank(gen.b, both[1]));
            }
            case 'l' -> {
                int length = 0;
                while (number.compareTo(power(gen.a, length)) >= 0) {
                    number = number.subtract(power(gen.a, length));
                    length++;
                }
                for (int i = 0; i < length; i++) {
                    BigInteger[] both = number.divideAndRemainder(power(gen.a, length - 1 - i));
                    all.addAll(unrank(gen.a, both[0]));
                    number = both[1];
                }
            }
            default -> {
                BigInteger one = count(gen.a);
                if (number.compareTo(one) < 0) {
                    all.addAll(unrank(gen.a, number));
                } else {
                    BigInteger[] both = number.subtract(one).divideAndRemainder(limit(count(g, depth - 1)));
                    all.addAll(unrank(g, depth - 1, both[0]));
                    all.addAll(unrank(g, depth - 1, both[1]));
                }
            }
        }
        return all;
    }

    private List<Integer> unrank(int g, BigInteger number) {
        return unrank(g, gens.get(g).b, number);
    }

    public long inputs(int generator) {
        gen(generator);
        uoe(!isCounted(generator));
        return count(generator).min(CAP).longValueExact();
    }

    private List<Integer> numbered(int generator, int number) {
        long count = inputs(generator);
        nsee(number < 0 || number >= count);
        return unrank(generator, BigInteger.valueOf(number));
    }

    public int inputLength(int generator, int number) {
        return numbered(generator, number).size();
    }

    public int inputAt(int generator, int number, int index) {
        List<Integer> values = numbered(generator, number);
        nsee(index < 0 || index >= values.size());
        return values.get(index);
    }

    // ---- programs

    public int program() {
        ise(programs.size() == 6);
        programs.add(new ArrayList<>());
        return programs.size() - 1;
    }

    public int instruct(int program, char kind, int k, int target) {
        prog(program);
        iae("r+*%<=ejox".indexOf(kind) < 0);
        boolean hasK = "+*%<=x".indexOf(kind) >= 0;
        boolean hasT = "<=ej".indexOf(kind) >= 0;
        iae(hasK && out(k, 0, 255) || hasT && out(target, 0, 15));
        ise(programs.get(program).size() == 16);
        programs.get(program).add(new Instruction(kind, hasK ? k : -1, hasT ? target : -1));
        return programs.get(program).size();
    }

    private static Outcome execute(List<Instruction> program, List<Integer> values) {
        Outcome o = new Outcome();
        ArrayDeque<Integer> left = new ArrayDeque<>(values);
        int a = 0;
        int at = 0;
        int steps = 0;
        while (at != 16 && at < program.size()) {
            if (steps == 200) {
                o.fault = 256;
                return o;
            }
            steps++;
            Instruction i = program.get(at);
            boolean goes = false;
            if (i.kind == 'x') {
                o.fault = i.k;
                return o;
            } else if (i.kind == 'r') {
                a += left.isEmpty() ? 0 : left.removeFirst();
            } else if (i.kind == '+') {
                a += i.k;
            } else if (i.kind == '*') {
                a *= i.k;
            } else if (i.kind == '%') {
                a = Math.floorMod(a, i.k + 1);
            } else if (i.kind == 'o') {
                o.output = o.output * 31 + a;
            } else {
                goes = i.kind == 'j' || i.kind == '<' && a < i.k || i.kind == '=' && a == i.k
                        || i.kind == 'e' && left.isEmpty();
            }
            int to = goes ? i.t : at + 1;
            if (goes) {
                o.jumps.add(at);
            }
            if (to >= program.size()) {
                to = 16;
            }
            o.edges.merge(List.of(at, to), 1, Integer::sum);
            at = to;
        }
        return o;
    }

    private Outcome onInput(int program) {
        prog(program);
        nsee(input == null);
        return execute(programs.get(program), input.values);
    }

    public int faultOf(int program) {
        return onInput(program).fault;
    }

    public int output(int program) {
        return onInput(program).output;
    }

    public int classOf(int program) {
        Outcome o = onInput(program);
        uoe(o.fault == -1);
        return o.type();
    }

    public int edges(int program) {
        return onInput(program).edges.size();
    }

    public int level(int program, int from, int to) {
        prog(program);
        iae(out(from, 0, 15) || out(to, 0, 16));
        return onInput(program).level(List.of(from, to));
    }

    // ---- properties

    public int property(char kind, int k, int other) {
        iae("soupd".indexOf(kind) < 0);
        iae(kind == 's' && out(k, 0, 10000));
        iae("pd".indexOf(kind) >= 0 && out(k, 0, programs.size() - 1));
        iae(kind == 'd' && out(other, 0, programs.size() - 1));
        ise(properties.size() == 8);
        Property p = new Property();
        p.kind = kind;
        p.k = k;
        p.other = other;
        properties.add(p);
        return properties.size() - 1;
    }

    private Property prop(int property) {
        ioobe(property < 0 || property >= properties.size());
        return properties.get(property);
    }

    public int require(int property, int modulus, int rest) {
        Property p = prop(property);
        iae(out(modulus, 1, 9) || rest < 0 || rest >= modulus);
        int before = 10 * p.m + p.rest;
        p.m = modulus;
        p.rest = rest;
        return before;
    }

    /** The class of the break, -1 without one. */
    private int judge(Property p, List<Integer> values) {
        switch (p.kind) {
            case 's':
                return sum(values) > p.k ? 0 : -1;
            case 'o':
                List<Integer> sorted = new ArrayList<>(values);
                Collections.sort(sorted);
                return sorted.equals(values) ? -1 : 0;
            case 'u':
                return new HashSet<>(values).size() == values.size() ? -1 : 0;
            case 'p':
                Outcome o = execute(programs.get(p.k), values);
                return o.fault == -1 ? -1 : o.type();
            default:
                Outcome one = execute(programs.get(p.k), values);
                Outcome two = execute(programs.get(p.other), values);
                if ((one.fault == -1) != (two.fault == -1)) {
                    return 2;
                }
                if (one.fault != two.fault) {
                    return 3;
                }
                return one.fault == -1 && one.output != two.output ? 1 : -1;
        }
    }

    public boolean holds(int property) {
        Property p = prop(property);
        nsee(input == null);
        return judge(p, input.values) == -1;
    }

    public char run(int property, int generator, int seed, int many, int discards) {
        Property p = prop(property);
        gen(generator);
        iae(out(many, 1, 100) || out(discards, 0, 100));
        good = 0;
        dropped = 0;
        goodSizes = new ArrayList<>();
        runRows = new ArrayList<>();
        runs++;
        while (true) {
            Made made = make(generator, seeded(seed++));
            if (made == null || sum(made.values) % p.m != p.rest) {
                dropped++;
                if (dropped > discards) {
                    return 'g';
                }
                continue;
            }
            runRows.add(made.values);
            int type = judge(p, made.values);
            if (type != -1) {
                breaks++;
                failure = made;
                failureClass = type;
                failureGen = generator;
                failureProperty = property;
                return 'b';
            }
            good++;
            goodSizes.add(made.values.size());
            if (good == many) {
                return 'o';
            }
        }
    }

    public int tested() {
        return good;
    }

    public int discarded() {
        return dropped;
    }

    public int label(int which) {
        iae(out(which, 0, 3));
        int[] least = {0, 1, 2, 4};
        int[] most = {0, 1, 3, 1000};
        return (int) goodSizes.stream().filter(n -> n >= least[which] && n <= most[which]).count();
    }

    public double unseen() {
        if (runRows.isEmpty()) {
            throw new ArithmeticException();
        }
        long once = runRows.stream().filter(r -> Collections.frequency(runRows, r) == 1).count();
        return (double) once / (double) runRows.size();
    }

    public float breakShare() {
        if (runs == 0) {
            throw new ArithmeticException();
        }
        return (float) breaks / (float) runs;
    }

    // ---- the failure

    private static boolean less(List<Integer> one, List<Integer> other) {
        if (one.size() != other.size()) {
            return one.size() < other.size();
        }
        return Arrays.compare(one.stream().mapToInt(i -> i).toArray(), other.stream().mapToInt(i -> i).toArray()) < 0;
    }

    private static List<Integer> with(List<Integer> row, int place, int draw) {
        List<Integer> changed = new ArrayList<>(row);
        changed.set(place, draw);
        return changed;
    }

    private static List<List<Integer>> candidates(List<Integer> row) {
        List<List<Integer>> all = new ArrayList<>();
        for (int by : new int[] {8, 4, 2, 1}) {
            for (int at = row.size() - by; at >= 0; at--) {
                List<Integer> without = new ArrayList<>(row);
                without.subList(at, at + by).clear();
                all.add(without);
            }
        }
        for (int i = 0; i < row.size(); i++) {
            int d = row.get(i);
            if (d != 0) {
                all.add(with(row, i, 0));
                all.add(with(row, i, d / 2));
                all.add(with(row, i, d - 1));
            }
        }
        for (int i = 0; i + 1 < row.size(); i++) {
            if (row.get(i) > row.get(i + 1)) {
                all.add(with(with(row, i, row.get(i + 1)), i + 1, row.get(i)));
            }
        }
        for (int i = 0; i < row.size(); i++) {
            for (int j = i + 1; j < row.size(); j++) {
                if (row.get(i) != 0 && row.get(j) != 0) {
                    all.add(with(with(row, i, row.get(i) - 1), j, row.get(j) - 1));
                }
            }
        }
        return all;
    }

    /** What a row makes if it breaks as the failure does, null otherwise. */
    private Made breaking(List<Integer> row) {
        Property p = properties.get(failureProperty);
        Made made = make(failureGen, rowed(row));
        if (made == null || sum(made.values) % p.m != p.rest || judge(p, made.values) != failureClass) {
            return null;
        }
        return made;
    }

    public int shrink(int tries) {
        iae(out(tries, 1, 400));
        nsee(failure == null);
        boolean again = true;
        while (again) {
            again = false;
            for (List<Integer> row : candidates(failure.row)) {
                if (tries == 0) {
                    break;
                }
                tries--;
                Made made = breaking(row);
                if (made != null && less(made.row, failure.row)) {
                    failure = made;
                    again = true;
                    break;
                }
            }
        }
        return failure.row.size();
    }

    public int failureClass() {
        nsee(failure == null);
        return failureClass;
    }

    public int failureDraw(int index) {
        nsee(failure == null);
        ioobe(index < 0 || index >= failure.row.size());
        return failure.row.get(index);
    }

    public int failureValue(int index) {
        nsee(failure == null);
        ioobe(index < 0 || index >= failure.values.size());
        return failure.values.get(index);
    }

    public boolean isReplayed() {
        nsee(failure == null);
        return breaking(failure.row) != null;
    }

    // ---- least changes

    private boolean breaks(int first, int second, Set<Integer> set) {
        List<Instruction> mixed = new ArrayList<>();
        for (int i = 0; i < programs.get(first).size(); i++) {
            mixed.add(programs.get(set.contains(i) ? second : first).get(i));
        }
        return execute(mixed, failure.values).fault != -1;
    }

    private static List<Set<Integer>> parts(Set<Integer> set, int n) {
        ArrayDeque<Integer> left = new ArrayDeque<>(set);
        List<Set<Integer>> parts = new ArrayList<>();
        for (int i = 0; i < n; i++) {
            // What is left, shared out over the parts that are left, rounded up: the first ones are the greater ones.
            int size = (left.size() + n - i - 1) / (n - i);
            Set<Integer> part = new TreeSet<>();
            for (int j = 0; j < size; j++) {
                part.add(left.removeFirst());
            }
            parts.add(part);
        }
        return parts;
    }

    public int least(int first, int second) {
        prog(first);
        prog(second);
        uoe(programs.get(first).size() != programs.get(second).size());
        nsee(failure == null);
        Set<Integer> set = new TreeSet<>();
        for (int i = 0; i < programs.get(first).size(); i++) {
            if (!programs.get(first).get(i).equals(programs.get(second).get(i))) {
                set.add(i);
            }
        }
        nsee(!breaks(first, second, set));
        int n = 2;
        reducing:
        while (set.size() > 1) {
            List<Set<Integer>> parts = parts(set, n);
            for (Set<Integer> part : parts) {
                if (breaks(first, second, part)) {
                    set = part;
                    n = 2;
                    continue reducing;
                }
            }
            for (Set<Integer> part : parts) {
                Set<Integer> rest = new TreeSet<>(set);
                rest.removeAll(part);
                if (breaks(first, second, rest)) {
                    set = rest;
                    n = Math.max(2, n - 1);
                    continue reducing;
                }
            }
            if (n >= set.size()) {
                break;
            }
            n = Math.min(2 * n, set.size());
        }
        return set.stream().mapToInt(i -> 1 << i).sum();
    }

    // ---- guided search

    /** Judges a made input, and returns whether a level is new. */
    private boolean look(int program, Made made) {
        Outcome o = execute(programs.get(program), made.values);
        boolean isNew = false;
        for (List<Integer> edge : o.edges.keySet()) {
            isNew |= seen.add(List.of(edge.get(0), edge.get(1), o.level(edge)));
        }
        if (o.fault != -1) {
            int type = o.type();
            if (leastRows.containsKey(type)) {
                if (less(made.row, leastRows.get(type))) {
                    leastRows.put(type, made.row);
                }
            } else if (found.size() < 10) {
                found.add(type);
                leastRows.put(type, made.row);
            }
        }
        return isNew;
    }

    private void putBehind(int program, Made made) {
        corpus.add(made);
        corpusEdges.add(execute(programs.get(program), made.values).edges.keySet());
        chosen.add(0);
    }

    public int search(int program, int generator, int seed, int rounds) {
        prog(program);
        gen(generator);
        iae(out(rounds, 0, 100));
        corpus.clear();
        corpusEdges.clear();
        chosen.clear();
        seen.clear();
        found.clear();
        leastRows.clear();
        Made first = make(generator, seeded(seed));
        if (first == null) {
            return 0;
        }
        look(program, first);
        putBehind(program, first);
        Source numbers = seeded(seed);
        for (int i = 0; i < rounds; i++) {
            int best = 0;
            for (int row = 0; row < corpus.size(); row++) {
                best = energy(row) > energy(best) ? row : best;
            }
            chosen.set(best, chosen.get(best) + 1);
            List<Integer> row = changed(program, corpus.get(best).row, numbers.next(), numbers.next(), numbers.next());
            Made made = make(generator, rowed(row));
            if (made != null && look(program, made) && corpus.size() < 20) {
                putBehind(program, made);
            }
        }
        return corpus.size();
    }

    private List<Integer> changed(int program, List<Integer> row, int one, int two, int three) {
        List<Integer> changed = new ArrayList<>(row);
        int how = one % 4;
        int places = how == 1 ? row.size() + 1 : row.size();
        int place = places == 0 ? 0 : two % places;
        if (how == 0 && !row.isEmpty()) {
            changed.set(place, three);
        } else if (how == 1 && row.size() < 60) {
            changed.add(place, three);
        } else if (how == 2) {
            List<Integer> other = corpus.get(three % corpus.size()).row;
            changed = new ArrayList<>(row.subList(0, place));
            changed.addAll(other.subList(Math.min(place, other.size()), other.size()));
        } else if (how == 3 && !row.isEmpty()) {
            List<Instruction> comparing = programs.get(program).stream()
                    .filter(i -> i.kind == '<' || i.kind == '=').toList();
            if (!comparing.isEmpty()) {
                changed.set(place, comparing.get(three % comparing.size()).k % 256);
            }
        }
        return changed;
    }

    public int corpus() {
        return corpus.size();
    }

    public int corpusDraw(int row, int index) {
        ioobe(row < 0 || row >= corpus.size() || index < 0 || index >= corpus.get(row).row.size());
        return corpus.get(row).row.get(index);
    }

    public int energy(int row) {
        ioobe(row < 0 || row >= corpus.size());
        int energy = 0;
        for (List<Integer> edge : corpusEdges.get(row)) {
            energy += 60 / (int) corpusEdges.stream().filter(e -> e.contains(edge)).count();
        }
        return energy - 10 * chosen.get(row);
    }

    public int classes() {
        return found.size();
    }

    public int foundClass(int index) {
        ioobe(index < 0 || index >= found.size());
        return found.get(index);
    }

    public int leastLength(int index) {
        return leastRows.get(foundClass(index)).size();
    }

    public int covered() {
        return seen.size();
    }

    // ---- machines of states

    public int queue(int room, int defect) {
        iae(out(room, 1, 4) || out(defect, 0, 3));
        this.room = room;
        this.defect = defect;
        int n = commands.size();
        commands = new ArrayList<>();
        return n;
    }

    public int command(int kind, int number) {
        iae(out(kind, 0, 3));
        iae(kind == 0 && out(number, 0, 99));
        iae(kind == 3 && out(number, 0, commands.size() - 1));
        ise(commands.size() == 20);
        commands.add(new int[] {kind, kind == 0 || kind == 3 ? number : 0});
        return commands.size() - 1;
    }

    private List<Integer> answers(List<int[]> row, int by) {
        List<Integer> answers = new ArrayList<>();
        List<Integer> queue = new ArrayList<>();
        for (int[] c : row) {
            boolean full = queue.size() == room;
            if (c[0] == 1) {
                answers.add(queue.isEmpty() ? -1 : queue.remove(by == 2 && full ? queue.size() - 1 : 0));
            } else if (c[0] == 2) {
                answers.add(by == 1 && full ? 0 : queue.size());
            } else {
                int n = c[0] == 0 ? c[1] : Math.max(0, answers.get(c[1]));
                if (!full) {
                    queue.add(n);
                } else if (by == 3) {
                    queue.set(0, n);
                }
                answers.add(full && by != 3 ? -1 : 0);
            }
        }
        return answers;
    }

    public int answer(int command, boolean ofModel) {
        ioobe(command < 0 || command >= commands.size());
        return answers(commands, ofModel ? 0 : defect).get(command);
    }

    private int broken(List<int[]> row) {
        List<Integer> one = answers(row, 0);
        List<Integer> other = answers(row, defect);
        for (int i = 0; i < row.size(); i++) {
            if (!one.get(i).equals(other.get(i))) {
                return i;
            }
        }
        return -1;
    }

    public int breaksAt() {
        int at = broken(commands);
        nsee(at == -1);
        return at;
    }

    public int makeSmall() {
        breaksAt();
        boolean again = true;
        while (again) {
            again = false;
            for (int i = commands.size() - 1; i >= 0; i--) {
                List<int[]> fewer = without(i);
                if (broken(fewer) != -1) {
                    commands = fewer;
                    again = true;
                    break;
                }
            }
        }
        return commands.size();
    }

    private List<int[]> without(int command) {
        Set<Integer> gone = new HashSet<>(Set.of(command));
        for (int round = 0; round < 20; round++) {
            for (int i = 0; i < commands.size(); i++) {
                if (commands.get(i)[0] == 3 && gone.contains(commands.get(i)[1])) {
                    gone.add(i);
                }
            }
        }
        List<Integer> left = new ArrayList<>();
        for (int i = 0; i < commands.size(); i++) {
            if (!gone.contains(i)) {
                left.add(i);
            }
        }
        List<int[]> fewer = new ArrayList<>();
        for (int i : left) {
            int[] c = commands.get(i);
            fewer.add(new int[] {c[0], c[0] == 3 ? left.indexOf(c[1]) : c[1]});
        }
        return fewer;
    }

    public int commandAt(int command, boolean isKind) {
        ioobe(command < 0 || command >= commands.size());
        return commands.get(command)[isKind ? 0 : 1];
    }

    // ---- side by side

    public int beside(int row, int kind, int k) {
        ioobe(out(row, 0, 1));
        iae(out(kind, 0, 1) || kind == 1 && out(k, -9, 9));
        ise(sides.get(row).size() == 4);
        sides.get(row).add(new int[] {kind, kind == 1 ? k : 0});
        return sides.get(row).size();
    }

    public int apart() {
        int n = sides.get(0).size() + sides.get(1).size();
        sides.get(0).clear();
        sides.get(1).clear();
        return n;
    }

    /** The answers of the row 0, those of the row 1, and the last number. */
    private List<List<Integer>> scheduled(int bits) {
        List<ArrayDeque<int[]>> steps = List.of(new ArrayDeque<>(), new ArrayDeque<>());
        for (int row = 0; row < 2; row++) {
            for (int[] c : sides.get(row)) {
                steps.get(row).add(new int[] {0, c[1]});
                if (c[0] == 1) {
                    steps.get(row).add(new int[] {1, c[1]});
                }
            }
        }
        List<List<Integer>> answers = List.of(new ArrayList<>(), new ArrayList<>(), new ArrayList<>());
        int number = 0;
        for (long left = bits & 0xffffffffL; !steps.get(0).isEmpty() || !steps.get(1).isEmpty(); left /= 2) {
            int row = (int) (left % 2);
            row = steps.get(row).isEmpty() ? 1 - row : row;
            int[] step = steps.get(row).removeFirst();
            List<Integer> own = answers.get(row);
            if (step[0] == 0) {
                own.add(number);
            } else {
                number = own.get(own.size() - 1) + step[1];
            }
        }
        answers.get(2).add(number);
        return answers;
    }

    public int schedule(int bits, int row, int command) {
        ioobe(out(row, 0, 1) || command < 0 || command >= sides.get(row).size());
        return scheduled(bits).get(row).get(command);
    }

    public boolean isInOrder(int bits) {
        return isOrder(scheduled(bits), 0, 0, 0);
    }

    private boolean isOrder(List<List<Integer>> due, int i, int j, int number) {
        if (i == sides.get(0).size() && j == sides.get(1).size()) {
            return due.get(2).get(0) == number;
        }
        boolean first = i < sides.get(0).size() && due.get(0).get(i) == number
                && isOrder(due, i + 1, j, number + sides.get(0).get(i)[1]);
        return first || j < sides.get(1).size() && due.get(1).get(j) == number
                && isOrder(due, i, j + 1, number + sides.get(1).get(j)[1]);
    }

    public int disorders() {
        int steps = 0;
        for (List<int[]> row : sides) {
            for (int[] c : row) {
                steps += 1 + c[0];
            }
        }
        uoe(steps > 10);
        int count = 0;
        for (int bits = 0; bits < 1 << steps; bits++) {
            count += isInOrder(bits) ? 0 : 1;
        }
        return count;
    }

    // ---- grammars

    public int produce(int nonterminal, int first, int second, int third, int fourth) {
        iae(out(nonterminal, 0, 5));
        List<Integer> symbols = new ArrayList<>();
        int[] all = {first, second, third, fourth};
        for (int i = 0; i < 4; i++) {
            boolean isNone = all[i] == -1 && i > 0;
            iae(!isNone && out(all[i], 0, 5) && out(all[i], 10, 99));
            iae(!isNone && symbols.size() < i);
            if (!isNone) {
                symbols.add(all[i]);
            }
        }
        iae(symbols.size() == 1 && first <= 5 && first <= nonterminal);
        ise(grammar.get(nonterminal).size() == 4);
        grammar.get(nonterminal).add(symbols);
        counted.clear();
        return grammar.get(nonterminal).size();
    }

    private final Map<List<Object>, BigInteger> counted = new HashMap<>();

    private BigInteger countWords(int nonterminal, int length) {
        BigInteger sum = BigInteger.ZERO;
        for (List<Integer> symbols : grammar.get(nonterminal)) {
            sum = sum.add(countRow(symbols, length));
        }
        return sum;
    }

    private BigInteger countSymbol(int symbol, int length) {
        if (symbol >= 10) {
            return length == 1 ? BigInteger.ONE : BigInteger.ZERO;
        }
        return countWords(symbol, length);
    }

    private BigInteger countRow(List<Integer> symbols, int length) {
        if (symbols.isEmpty()) {
            return length == 0 ? BigInteger.ONE : BigInteger.ZERO;
        }
        if (length < symbols.size()) {
            return BigInteger.ZERO;
        }
        List<Object> key = List.of(List.copyOf(symbols), length);
        BigInteger known = counted.get(key);
        if (known != null) {
            return known;
        }
        List<Integer> others = symbols.subList(1, symbols.size());
        BigInteger sum = BigInteger.ZERO;
        for (int own = 1; own <= length - others.size(); own++) {
            BigInteger rest = countRow(others, length - own);
            if (rest.signum() != 0) {
                sum = sum.add(countSymbol(symbols.get(0), own).multiply(rest));
            }
        }
        counted.put(key, sum);
        return sum;
    }

    private List<Integer> wordOf(int nonterminal, int length, BigInteger number) {
        for (List<Integer> symbols : grammar.get(nonterminal)) {
            BigInteger ways = countRow(symbols, length);
            if (number.compareTo(ways) < 0) {
                return rowOf(symbols, length, number);
            }
            number = number.subtract(ways);
        }
        throw new IllegalStateException("no word");
    }

    private List<Integer> rowOf(List<Integer> symbols, int length, BigInteger number) {
        if (symbols.isEmpty()) {
            return new ArrayList<>();
        }
        List<Integer> others = symbols.subList(1, symbols.size());
        for (int own = 1; own <= length - others.size(); own++) {
            BigInteger rest = countRow(others, length - own);
            BigInteger ways = rest.signum() == 0 ? rest : countSymbol(symbols.get(0), own).multiply(rest);
            if (number.compareTo(ways) < 0) {
                BigInteger[] both = number.divideAndRemainder(rest);
                List<Integer> letters = new ArrayList<>();
                if (symbols.get(0) >= 10) {
                    letters.add(symbols.get(0));
                } else {
                    letters.addAll(wordOf(symbols.get(0), own, both[0]));
                }
                letters.addAll(rowOf(others, length - own, both[1]));
                return letters;
            }
            number = number.subtract(ways);
        }
        throw new IllegalStateException("no row");
    }

    public int words(int nonterminal, int length) {
        iae(out(nonterminal, 0, 5) || out(length, 1, 12));
        return countWords(nonterminal, length).min(CAP).intValueExact();
    }

    public int letterAt(int nonterminal, int length, int number, int place) {
        iae(out(nonterminal, 0, 5) || out(length, 1, 12) || out(place, 0, length - 1));
        nsee(number < 0 || number >= words(nonterminal, length));
        return wordOf(nonterminal, length, BigInteger.valueOf(number)).get(place);
    }

    public boolean isSound() {
        return true;
    }
}
