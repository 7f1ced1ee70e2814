import java.util.HashMap;
import java.util.Map;

/** The sentences on properties and on runs. */
final class PropertySentences extends Sentences {
    static void all() {
        sentence("At most 8 properties are numbered from 0:", PropertySentences::atMostEight);
        sentence("'s' the sum of the values is at most k;", PropertySentences::sums);
        sentence("'o' no value is less than the one ahead;", PropertySentences::orders);
        sentence("'u' all values are unlike;", PropertySentences::unlike);
        sentence("'p' the program runs without a fault;", PropertySentences::withoutFault);
        sentence("'d' two programs end without faults and with the same output, or with the same fault number.",
                PropertySentences::alike);
        sentence("An input whose sum modulo m is not the rest does not meet its precondition, and is discarded;",
                PropertySentences::preconditions);
        sentence("m is 1 at first.", PropertySentences::firstPrecondition);
        sentence("The class of a break is 0 for 's', 'o', 'u', that of the fault for 'p', and for 'd' 1 if outputs "
                + "differ, 2 if just one program has a fault, 3 if their numbers differ.",
                PropertySentences::classesOfBreaks);
        sentence("A run tests a property by a generator, with inputs of the seeds told and 1, 2 and so on more:",
                PropertySentences::seeds);
        sentence("it ends with 'g', given up, if more than so many are discarded,", PropertySentences::givenUp);
        sentence("with 'b' as one breaks the property, which is kept as the failure, with its row, generator, property "
                + "and class;", PropertySentences::breaks);
        sentence("with 'o' when as many as told were good.", PropertySentences::good);
        sentence("Behind 'g' and 'o' the failure stays as it was.", PropertySentences::failureStays);
        sentence("The labels of a run count its good inputs by how many values they have: 0, 1, 2 or 3, more.",
                PropertySentences::labels);
        sentence("What is unseen is the number of rows of values that came just once among all inputs of the run that "
                + "were not discarded, divided by the number of these inputs.", PropertySentences::cameOnce);
    }

    private static void atMostEight() {
        Shrinkery x = withInput();
        due(OUT, () -> x.holds(0));
        for (int i = 0; i < 8; i++) {
            int number = i;
            due(OUT, () -> x.holds(number));
            due(number, () -> x.property(number % 2 == 0 ? 'o' : 'u', 0, 0));
            due(true, () -> x.holds(number));
        }
        due(ISE, () -> x.property('s', 0, 0));
        due(OUT, () -> x.holds(8));
        due(OUT, () -> x.require(8, 1, 0));
    }

    private static boolean holds(char kind, int k, int... values) {
        Shrinkery x = withInput(values);
        return x.holds(x.property(kind, k, 0));
    }

    private static void sums() {
        due(true, () -> holds('s', 13, 5, 0, 7));
        due(true, () -> holds('s', 12, 5, 0, 7));
        due(false, () -> holds('s', 11, 5, 0, 7));
        due(true, () -> holds('s', 0));
        due(true, () -> holds('s', 0, 0));
        due(false, () -> holds('s', 0, 1));
        due(false, () -> holds('s', 255, 255, 1));
        // 39 times 255 and 55 are 10000.
        Shrinkery x = numbers();
        x.property('s', 10000, 0);
        x.property('s', 9999, 0);
        int[] row = new int[40];
        java.util.Arrays.fill(row, 255);
        row[39] = 55;
        made(x, 6, row);
        due(true, () -> x.holds(0));
        due(false, () -> x.holds(1));
        row[39] = 56;
        made(x, 6, row);
        due(false, () -> x.holds(0));
    }

    private static void orders() {
        due(true, () -> holds('o', 0));
        due(true, () -> holds('o', 0, 5));
        due(true, () -> holds('o', 0, 5, 6));
        due(true, () -> holds('o', 0, 5, 5));
        due(false, () -> holds('o', 0, 5, 4));
        due(true, () -> holds('o', 0, 1, 2, 2, 9));
        due(false, () -> holds('o', 0, 1, 2, 9, 8));
        due(false, () -> holds('o', 0, 2, 1, 8, 9));
        due(true, () -> holds('o', 0, 0, 255));
    }

    private static void unlike() {
        due(true, () -> holds('u', 0));
        due(true, () -> holds('u', 0, 5));
        due(true, () -> holds('u', 0, 5, 4));
        due(false, () -> holds('u', 0, 5, 5));
        due(false, () -> holds('u', 0, 5, 1, 2, 5));
        due(false, () -> holds('u', 0, 1, 2, 5, 5));
        due(true, () -> holds('u', 0, 1, 2, 3, 0));
    }

    private static boolean runs(String text, int... values) {
        Shrinkery x = withInput(values);
        return x.holds(x.property('p', code(x, text), 0));
    }

    private static void withoutFault() {
        due(true, () -> runs(""));
        due(true, () -> runs("r o"));
        due(false, () -> runs("x0"));
        due(false, () -> runs("j:0"));
        due(true, () -> runs("r =5:9 x1", 5));
        due(false, () -> runs("r =5:9 x1", 6));
    }

    private static boolean areAlike(String one, String other, int... values) {
        Shrinkery x = withInput(values);
        return x.holds(x.property('d', code(x, one), code(x, other)));
    }

    private static void alike() {
        due(true, () -> areAlike("", ""));
        due(true, () -> areAlike("", "r", 7));
        due(true, () -> areAlike("r o", "+7 o", 7));
        due(false, () -> areAlike("r o", "+7 o", 8));
        due(true, () -> areAlike("o", ""));
        due(false, () -> areAlike("+1 o", ""));
        // A fault tells more than the output: 0 is one too, and it is its number alone that counts.
        due(true, () -> areAlike("x0", "x0"));
        due(false, () -> areAlike("x0", ""));
        due(false, () -> areAlike("", "x0"));
        due(false, () -> areAlike("x0", "x1"));
        due(true, () -> areAlike("+1 o x5", "r j:2 x5"));
        due(true, () -> areAlike("j:0", "+1 j:1"));
        due(false, () -> areAlike("j:0", "x255"));
    }

    /** How a run of one input of the sum 7 ends, by a precondition. */
    private static char runOfSeven(int modulus, int rest) {
        Shrinkery x = new Shrinkery();
        x.number(3, 3);
        x.number(4, 4);
        x.pair(0, 1);
        x.property('s', 7, 0);
        x.require(0, modulus, rest);
        return x.run(0, 2, 1, 1, 0);
    }

    private static void preconditions() {
        for (int modulus = 1; modulus <= 9; modulus++) {
            for (int rest = 0; rest < modulus; rest++) {
                int m = modulus;
                int left = rest;
                due(7 % m == left ? 'o' : 'g', () -> runOfSeven(m, left));
            }
        }
        // The sum of no value is 0, that of many is above 255; each is counted as discarded, though it breaks.
        Shrinkery x = new Shrinkery();
        x.number(255, 255);
        x.list(0, 0);
        x.pair(0, 0);
        x.property('s', 0, 0);
        x.require(0, 9, 6);
        due('g', () -> x.run(0, 1, 1, 1, 0));
        due(1, x::discarded);
        due(0, x::tested);
        due('b', () -> x.run(0, 2, 1, 1, 0));
        due(0, x::discarded);
        x.require(0, 9, 5);
        due('g', () -> x.run(0, 2, 1, 1, 3));
        due(4, x::discarded);
        x.require(0, 9, 0);
        due('o', () -> x.run(0, 1, 1, 1, 0));
    }

    private static void firstPrecondition() {
        Shrinkery x = new Shrinkery();
        x.number(0, 255);
        x.property('s', 255, 0);
        x.property('s', 255, 0);
        due('o', () -> x.run(0, 0, 1, 100, 0));
        due(10, () -> x.require(0, 9, 8));
        due(98, () -> x.require(0, 1, 0));
        due(10, () -> x.require(1, 1, 0));
    }

    /** The class of a break by the values 7 and 3, or by two times 7 for 'u'. */
    private static int broken(char kind, int k, int other) {
        Shrinkery x = new Shrinkery();
        x.number(7, 7);
        x.number(3, 3);
        x.pair(0, 0);
        x.pair(0, 1);
        for (String text : new String[] {"r o", "r +1 o", "x0", "x9", "r j:2 x9", "j:0"}) {
            code(x, text);
        }
        x.property(kind, k, other);
        x.run(0, kind == 'u' ? 2 : 3, 1, 1, 0);
        return x.failureClass();
    }

    private static void classesOfBreaks() {
        due(0, () -> broken('s', 9, 0));
        due(NONE, () -> broken('s', 10, 0));
        due(0, () -> broken('o', 0, 0));
        due(0, () -> broken('u', 0, 0));
        due(NONE, () -> broken('p', 0, 0));
        due(0, () -> broken('p', 2, 0));
        due(9 * 4096, () -> broken('p', 3, 0));
        due(9 * 4096 + 256, () -> broken('p', 4, 0));
        due(256 * 4096, () -> broken('p', 5, 0));
        due(NONE, () -> broken('d', 0, 0));
        due(1, () -> broken('d', 0, 1));
        due(2, () -> broken('d', 0, 2));
        due(2, () -> broken('d', 2, 0));
        due(3, () -> broken('d', 2, 3));
        due(3, () -> broken('d', 3, 5));
        due(NONE, () -> broken('d', 3, 4));
    }

    /** A house whose property 0 breaks by the number k alone, and whose property 1 by all others. */
    private static Shrinkery breakingBy(int k) {
        Shrinkery x = new Shrinkery();
        x.number(0, 255);
        code(x, "r =" + k + ":3 j:9 x1");
        code(x, "r =" + k + ":9 x1");
        x.property('p', 0, 0);
        x.property('p', 1, 0);
        return x;
    }

    private static void seeds() {
        Shrinkery third = breakingBy(drawOf(7, 1));
        due('o', () -> third.run(0, 0, 5, 2, 0));
        due('b', () -> third.run(0, 0, 5, 3, 0));
        due(2, third::tested);
        due(drawOf(7, 1), () -> third.failureDraw(0));
        due('b', () -> third.run(0, 0, 7, 1, 0));
        due(0, third::tested);
        // Behind the greatest seed comes the least one.
        Shrinkery wraps = breakingBy(drawOf(MOST, 1));
        due('o', () -> wraps.run(1, 0, MOST, 1, 0));
        due('b', () -> wraps.run(1, 0, MOST, 2, 0));
        due(drawOf(LEAST, 1), () -> wraps.failureDraw(0));
        // What is discarded takes its seed with it.
        Shrinkery x = breakingBy(drawOf(-1, 1));
        x.require(1, 2, 1 - drawOf(-1, 1) % 2);
        int next = 0;
        while (drawOf(next, 1) % 2 == drawOf(-1, 1) % 2) {
            next++;
        }
        int seed = next;
        due('b', () -> x.run(1, 0, -1, 1, 100));
        due(seed + 1, x::discarded);
        due(drawOf(seed, 1), () -> x.failureDraw(0));
    }

    private static void givenUp() {
        Shrinkery x = new Shrinkery();
        x.number(0, 255);
        x.word(0, 1);
        x.property('s', 255, 0);
        for (int most : new int[] {0, 1, 99, 100}) {
            due('g', () -> x.run(0, 1, 1, 1, most));
            due(most + 1, x::discarded);
            due(0, x::tested);
        }
        // Just as many are discarded, or one more, ahead of the good one.
        int first = 0;
        int even = 0;
        while (even < 3) {
            even = drawOf(first + even, 1) % 2 == 0 ? even + 1 : 0;
            first = even == 0 ? first + 1 : first;
        }
        int start = first;
        int next = first;
        while (drawOf(next, 1) % 2 == 0) {
            next++;
        }
        int many = next - first;
        x.require(0, 2, 1);
        due(true, () -> many >= 3);
        due('o', () -> x.run(0, 0, start, 1, many));
        due(many, x::discarded);
        due(1, x::tested);
        due('o', () -> x.run(0, 0, start, 1, many + 1));
        due('g', () -> x.run(0, 0, start, 1, many - 1));
        due(many, x::discarded);
        due(0, x::tested);
    }

    private static void breaks() {
        Shrinkery x = new Shrinkery();
        x.number(0, 255);
        x.number(7, 7);
        x.pair(0, 1);
        code(x, "r o");
        code(x, "r j:2 +1 o");
        x.property('d', 0, 1);
        x.property('s', 10000, 0);
        due('b', () -> x.run(0, 2, 11, 5, 0));
        due(drawOf(11, 1) + "," + drawOf(11, 2), () -> failure(x, true));
        due(drawOf(11, 1) + ",7", () -> failure(x, false));
        due(1, x::failureClass);
        due(true, x::isReplayed);
        // It is that generator and that property by which it is shrunk.
        due(2, () -> x.shrink(400));
        due("0,0", () -> failure(x, true));
        due("0,7", () -> failure(x, false));
        // Another break takes its place.
        x.property('s', 6, 0);
        due('b', () -> x.run(2, 1, 4, 1, 0));
        due("" + drawOf(4, 1), () -> failure(x, true));
        due("7", () -> failure(x, false));
        due(0, x::failureClass);
    }

    private static void good() {
        Shrinkery x = breakingBy(drawOf(8, 1));
        for (int many = 1; many <= 3; many++) {
            int all = many;
            due('o', () -> x.run(0, 0, 5, all, 0));
            due(all, x::tested);
        }
        due('b', () -> x.run(0, 0, 5, 4, 0));
        due(3, x::tested);
        x.property('s', 255, 0);
        due('o', () -> x.run(2, 0, 5, 100, 0));
        due(100, x::tested);
        due('o', () -> x.run(2, 0, 5, 1, 100));
        due(1, x::tested);
    }

    private static void failureStays() {
        Shrinkery x = breakingBy(9);
        x.property('s', 255, 0);
        x.word(0, 1);
        due('o', () -> x.run(2, 0, 3, 5, 0));
        due(NONE, x::failureClass);
        due('g', () -> x.run(2, 1, 3, 5, 0));
        due(NONE, x::failureClass);
        due('b', () -> x.run(1, 0, 3, 5, 0));
        due('o', () -> x.run(2, 0, 4, 5, 0));
        due("" + drawOf(3, 1), () -> failure(x, true));
        due(4096, x::failureClass);
        due('g', () -> x.run(2, 1, 4, 5, 0));
        due("" + drawOf(3, 1), () -> failure(x, true));
        due("" + drawOf(3, 1), () -> failure(x, false));
        due(4096, x::failureClass);
        due(true, x::isReplayed);
    }

    private static void labels() {
        Shrinkery x = new Shrinkery();
        x.number(0, 0);
        x.list(0, 0);
        x.pair(0, 0);
        x.pair(2, 0);
        x.pair(2, 2);
        x.pair(4, 0);
        x.property('s', 0, 0);
        int[][] labels = {{1, 0}, {0, 1}, {2, 2}, {3, 2}, {4, 3}, {5, 3}};
        for (int[] label : labels) {
            due('o', () -> x.run(0, label[0], 1, 6, 0));
            for (int i = 0; i < 4; i++) {
                int which = i;
                due(which == label[1] ? 6 : 0, () -> x.label(which));
            }
        }
        // What breaks and what is discarded is not good.
        x.list(0, 1);
        x.property('p', code(x, "e:9 x1"), 0);
        due('b', () -> x.run(1, 6, seedOfLengths(), 5, 0));
        due(1, () -> x.label(0));
        due(0, () -> x.label(1));
        x.require(0, 2, 1);
        due('g', () -> x.run(0, 0, 1, 5, 9));
        due(0, () -> x.label(1));
    }

    /** A seed of an even first draw, and whose next one has an odd first draw. */
    private static int seedOfLengths() {
        int seed = 0;
        while (drawOf(seed, 1) % 2 != 0 || drawOf(seed + 1, 1) % 2 == 0) {
            seed++;
        }
        return seed;
    }

    private static void cameOnce() {
        Shrinkery x = new Shrinkery();
        x.number(0, 3);
        x.number(7, 7);
        x.list(1, 8);
        x.word(0, 1);
        x.property('s', 255, 0);
        due(ARITHMETIC, x::unseen);
        for (int many : new int[] {1, 2, 3, 4, 5, 9}) {
            Map<Integer, Integer> times = new HashMap<>();
            for (int i = 0; i < many; i++) {
                times.merge(drawOf(1 + i, 1) % 4, 1, Integer::sum);
            }
            double once = times.values().stream().filter(often -> often == 1).count();
            x.run(0, 0, 1, many, 0);
            due(once / many, x::unseen);
        }
        // Alike are the rows of values, though their draws are not; a shorter row is another one.
        x.run(0, 1, 1, 1, 0);
        due(1.0, x::unseen);
        x.run(0, 1, 1, 2, 0);
        due(0.0, x::unseen);
        int first = 0;
        while (drawOf(first, 1) % 9 == drawOf(first + 1, 1) % 9) {
            first++;
        }
        int seed = first;
        x.run(0, 2, seed, 2, 0);
        due(1.0, x::unseen);
        // Two rows of two values are alike if both are, in their order.
        Shrinkery two = new Shrinkery();
        two.number(0, 1);
        two.pair(0, 0);
        two.property('s', 255, 0);
        for (int many = 1; many <= 12; many++) {
            int all = many;
            for (int start = 1; start <= 8; start++) {
                Map<Integer, Integer> times = new HashMap<>();
                for (int i = 0; i < many; i++) {
                    times.merge(drawOf(start + i, 1) % 2 * 2 + drawOf(start + i, 2) % 2, 1, Integer::sum);
                }
                double once = times.values().stream().filter(often -> often == 1).count();
                two.run(0, 1, start, many, 0);
                due(once / all, two::unseen);
            }
        }
        // What breaks is not discarded; what is discarded is neither counted nor compared.
        x.property('s', 0, 0);
        x.run(1, 1, 1, 5, 0);
        due(1.0, x::unseen);
        x.run(0, 3, 1, 5, 5);
        due(ARITHMETIC, x::unseen);
        x.require(1, 2, 1);
        x.run(1, 1, 1, 5, 0);
        due(1.0, x::unseen);
        x.require(1, 2, 0);
        x.run(1, 1, 1, 5, 5);
        due(ARITHMETIC, x::unseen);
    }
}
