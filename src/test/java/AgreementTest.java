import java.lang.reflect.InvocationTargetException;
import java.lang.reflect.Method;
import java.util.ArrayList;
import java.util.Arrays;
import java.util.HashMap;
import java.util.List;
import java.util.Map;
import java.util.Random;

/**
 * Makes runs of calls by fixed seeds, and holds each answer of Shrinkery against that of NaiveHouse. A thrown
 * exception must be just of the class that is due: one that the machine throws is of another one, or has no text.
 */
public final class AgreementTest {
    private static final int CALLS = 512;

    /** Each method with the ranges of its arguments; a name that NaiveHouse.sizeOf knows is one of what there is. */
    private static final String[] FACE = {
        "number 0:255 0:255", "choice g g 1:9", "list g 0:8", "pair g g", "filter g 2:9 0:8", "depends g g",
        "tree g 0:4", "word 0:5 1:12", "kindOf g", "draw g seed", "type 0:255", "erase", "replay g", "value value",
        "draws", "drawAt draw", "inputs g", "inputLength g big", "inputAt g big 0:4", "program",
        "instruct p kind 0:255 0:15", "faultOf p", "output p", "classOf p", "edges p", "level p 0:15 0:16",
        "property prop 0:12 0:5", "require y 1:3 0:2", "holds y", "run y g seed 1:100 0:100", "tested", "discarded",
        "label 0:3", "unseen", "shrink 1:400", "failureClass", "failureDraw fdraw", "failureValue fvalue",
        "isReplayed", "search p g seed 0:100", "corpus", "corpusDraw row 0:9", "energy row", "classes",
        "foundClass found", "leastLength found", "covered", "queue 1:4 0:3", "command 0:3 0:12", "answer c bool",
        "breaksAt", "makeSmall", "commandAt c bool", "beside 0:1 0:1 -9:9", "apart", "schedule any 0:1 0:3",
        "isInOrder any", "disorders", "produce 0:5 sym more more more", "words 0:5 1:12", "letterAt nt len word place",
        "least p p", "breakShare", "isSound",
    };

    private final Random random;
    private final Shrinkery house = new Shrinkery();
    private final NaiveHouse naive = new NaiveHouse();
    private final List<String> calls = new ArrayList<>();
    private int nonterminal;
    private int length = 1;
    private static final Map<String, Method> METHODS = new HashMap<>();
    private static final Map<String, Method> NAIVE = new HashMap<>();
    private static final Map<String, int[]> TALLY = new HashMap<>();

    private AgreementTest(long seed) {
        random = new Random(seed);
    }

    public static void main(String[] args) {
        int runs = args.length > 0 ? Integer.parseInt(args[0]) : 400;
        long from = args.length > 1 ? Long.parseLong(args[1]) : 1;
        for (Method m : Shrinkery.class.getDeclaredMethods()) {
            METHODS.put(m.getName(), m);
        }
        for (Method m : NaiveHouse.class.getDeclaredMethods()) {
            if (java.lang.reflect.Modifier.isPublic(m.getModifiers())) {
                NAIVE.put(m.getName(), m);
            }
        }
        for (long seed = from; seed < from + runs; seed++) {
            if (!new AgreementTest(seed).isAgreed() || !new AgreementTest(seed).isLeastAgreed()
                    || !new AgreementTest(seed).isSearchAgreed()) {
                System.out.println("no agreement by the seed " + seed);
                System.exit(1);
            }
        }
        for (String line : FACE) {
            String name = line.split(" ")[0];
            int[] tally = TALLY.getOrDefault(name, new int[2]);
            if (args.length > 0) {
                System.out.println(name + ": " + tally[0] + " answered, " + tally[1] + " thrown");
            }
            if (tally[0] == 0) {
                System.out.println(name + " was never answered");
                System.exit(1);
            }
        }
        System.out.println(runs + " runs agree");
    }

    private boolean isAgreed() {
        int setUp = 20 + random.nextInt(120);
        int focus = random.nextInt(6);
        for (int i = 0; i < CALLS; i++) {
            String line = i < setUp ? setUpCall(i) : focused(focus);
            String[] words = line.split(" ");
            nonterminal = 0;
            length = 1;
            Object[] arguments = new Object[words.length - 1];
            boolean isWild = random.nextInt(i < setUp ? 40 : 12) == 0;
            for (int j = 0; j < arguments.length; j++) {
                arguments[j] = argument(words[j + 1], isWild && random.nextBoolean());
            }
            if (!isCallAgreed(words[0], arguments)) {
                return false;
            }
        }
        return true;
    }

    private boolean isLineAgreed(String line) {
        String[] words = line.split(" ");
        Object[] arguments = new Object[words.length - 1];
        for (int j = 0; j < arguments.length; j++) {
            arguments[j] = argument(words[j + 1], false);
        }
        return isCallAgreed(words[0], arguments);
    }

    private boolean areAgreed(String... lines) {
        for (String line : lines) {
            if (!isLineAgreed(line)) {
                return false;
            }
        }
        return true;
    }

    /** Least sets of changes between long programs, most of whose instructions are otherwise. */
    private boolean isLeastAgreed() {
        boolean isAgreed = areAgreed("number 0:0 255:255", "list 0:0 4:4");
        isAgreed &= isCallAgreed("property", new Object[] {'s', 0, 0}) && isLineAgreed("run 0:0 1:1 seed 9:9 9:9");
        String[] kinds = {"+++r<<j%o", "+++r<<=e%xxo"};
        for (int program = 0; program < 4; program++) {
            isAgreed &= isLineAgreed("program");
            for (int i = 0; i < 16; i++) {
                String some = kinds[program % 2];
                char kind = some.charAt(random.nextInt(some.length()));
                isAgreed &= isCallAgreed("instruct", new Object[] {program, kind, between(0, 9), between(i / 2, 15)});
            }
        }
        for (int i = 0; i < 16; i++) {
            isAgreed &= isCallAgreed("least", new Object[] {i / 4, i % 4});
        }
        return isAgreed;
    }

    /** Searches whose corpus and whose classes are more than there may be. */
    private boolean isSearchAgreed() {
        String[] codes = {"re<<<<jxx<<x", "re<<<<<<<<j", "rre<<<=jxx<=x"};
        String code = codes[random.nextInt(codes.length)];
        boolean isAgreed = areAgreed("number 0:0 255:255", "list 0:0 2:8", "program");
        for (int i = 0; i < code.length(); i++) {
            int target = code.charAt(i) == 'e' ? between(code.length() / 2, code.length()) : between(0, i / 2);
            isAgreed &= isCallAgreed("instruct", new Object[] {0, code.charAt(i), 20 * i, target});
        }
        isAgreed &= areAgreed("search 0:0 1:1 seed 60:100", "corpus", "covered", "classes", "isSound");
        for (int i = 0; i < naive.sizeOf("row"); i++) {
            isAgreed &= isCallAgreed("energy", new Object[] {i}) && isCallAgreed("corpusDraw", new Object[] {i, 0})
                    && isCallAgreed("corpusDraw", new Object[] {i, 2});
        }
        for (int i = 0; i < naive.sizeOf("found"); i++) {
            isAgreed &= isCallAgreed("foundClass", new Object[] {i}) && isCallAgreed("leastLength", new Object[] {i});
        }
        return isAgreed;
    }

    private String setUpCall(int i) {
        String[] some = {"number 0:9 9:60", "number 0:3 3:5", "list g 0:8", "choice g g 1:9", "pair g g", "tree g 0:4",
            "filter g 2:4 0:1", "depends g g", "word 0:5 1:6", "program", "program",
            "property prop 0:12 0:5", "property prop 0:200 0:5", "produce 0:5 sym more more more",
            "produce 0:2 sym more more more", "command 0:3 0:12", "command 0:3 0:12", "beside 0:1 0:1 -9:9",
            "type 0:255", "instruct p kind 0:12 0:15", "instruct p kind 0:12 0:15", "instruct p kind 0:12 0:15",
            "instruct p kind 0:12 0:15", "instruct p kind 0:12 0:15"};
        String[] first = {"number 0:2 3:9", "produce 0:5 10:14 none none none", "produce 0:2 10:14 none none none",
            "produce 3:5 10:14 more none none"};
        return i < first.length ? first[i] : some[random.nextInt(some.length)];
    }

    private String focused(int focus) {
        String[][] some = {
            {"run y g seed 1:100 0:100", "shrink 1:400", "failureDraw fdraw", "failureDraw fdraw",
                "failureValue fvalue", "failureValue fvalue", "failureClass", "isReplayed", "least p p", "unseen",
                "instruct p kind 0:12 0:15", "require y 1:3 0:2"},
            {"search p g seed 20:100", "corpusDraw row 0:9", "corpusDraw row 0:9", "energy row", "energy row",
                "foundClass found", "leastLength found", "covered"},
            {"command 0:0 0:99", "command 0:0 0:12", "command 1:2 0:3", "command 3:3 c", "command 0:3 0:12",
                "answer c bool", "answer c bool", "breaksAt", "makeSmall", "commandAt c bool", "commandAt c bool",
                "random queue"},
            {"beside 0:1 0:1 -9:9", "schedule any 0:1 0:3", "isInOrder any", "isInOrder any", "disorders"},
            {"words 0:5 1:12", "letterAt nt len word place", "letterAt nt len word place", "draw g seed",
                "value value", "word 0:5 1:6"},
            {"draw g seed", "replay g", "value value", "level p 0:15 0:16", "faultOf p", "classOf p", "holds y",
                "inputAt g big 0:4", "inputLength g big", "edges p", "output p", "drawAt draw", "type 0:255"},
        };
        // What takes a lot away would seldom leave enough behind it to go on with.
        String[] rare = {"queue", "apart", "erase"};
        if (random.nextInt(3) == 0) {
            String line = FACE[random.nextInt(FACE.length)];
            return Arrays.asList(rare).contains(line.split(" ")[0]) && random.nextInt(4) > 0 ? "isSound" : line;
        }
        String line = some[focus][random.nextInt(some[focus].length)];
        return !line.equals("random queue") ? line : random.nextInt(3) == 0 ? "queue 1:4 0:3" : "covered";
    }

    private int between(int least, int most) {
        return least + random.nextInt(most - least + 1);
    }

    private Object argument(String range, boolean isWild) {
        int[] wild = {-1, 0, 1, 16, 17, 60, 255, 256, Integer.MIN_VALUE, Integer.MAX_VALUE, -2, 10000, 10001};
        switch (range) {
            case "bool":
                return random.nextBoolean();
            case "kind":
                return isWild ? (char) random.nextInt(300) : "rrrr+*%<<<==ejoxx".charAt(random.nextInt(17));
            case "prop":
                return isWild ? (char) random.nextInt(300) : "souppddd".charAt(random.nextInt(8));
            default:
                break;
        }
        if (isWild) {
            return wild[random.nextInt(wild.length)];
        }
        switch (range) {
            case "g": case "p": case "y": case "c": case "value": case "draw": case "fdraw": case "fvalue": case "row":
            case "found":
                return between(0, Math.max(0, naive.sizeOf(range) - 1));
            case "nt":
                nonterminal = between(0, 5);
                return nonterminal;
            case "len":
                length = between(1, 12);
                return length;
            case "word":
                return random.nextInt(Math.max(1, naive.words(nonterminal, length)));
            case "place":
                return between(0, length - 1);
            case "none":
                return -1;
            case "seed":
                return random.nextInt(20) == 0 ? random.nextInt() : between(0, 50);
            case "any":
                return random.nextInt(4) == 0 ? random.nextInt() : random.nextInt(1 << 16);
            case "big":
                return random.nextInt(1 << between(1, 30));
            case "sym":
                return random.nextBoolean() ? between(0, 5) : between(10, 99);
            case "more":
                return random.nextInt(3) == 0 ? -1 : random.nextBoolean() ? between(0, 5) : between(10, 14);
            default:
                String[] ends = range.split(":");
                return between(Integer.parseInt(ends[0]), Integer.parseInt(ends[1]));
        }
    }

    private static Object answer(Map<String, Method> methods, Object of, String name, Object[] arguments) {
        try {
            return methods.get(name).invoke(of, arguments);
        } catch (InvocationTargetException e) {
            Throwable thrown = e.getCause();
            boolean isOfMachine = of instanceof Shrinkery && thrown.getMessage() == null;
            if (!(thrown instanceof RuntimeException) || isOfMachine) {
                thrown.printStackTrace();
            }
            return "throws " + thrown.getClass().getName() + (isOfMachine ? " of the machine" : "");
        } catch (IllegalAccessException e) {
            return "no access";
        }
    }

    private boolean isCallAgreed(String name, Object[] arguments) {
        Object due = answer(NAIVE, naive, name, arguments);
        Object got = answer(METHODS, house, name, arguments);
        calls.add(name + Arrays.toString(arguments) + " -> " + due);
        int[] tally = TALLY.computeIfAbsent(name, n -> new int[2]);
        tally[due.toString().startsWith("throws ") ? 1 : 0]++;
        if (due.equals(got)) {
            return true;
        }
        calls.forEach(System.out::println);
        System.out.println("the last call answered " + got + ", due is " + due);
        return false;
    }
}
