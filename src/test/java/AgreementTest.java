import java.lang.reflect.InvocationTargetException;
import java.lang.reflect.Method;
import java.util.ArrayList;
import java.util.Arrays;
import java.util.HashMap;
import java.util.List;
import java.util.Map;
import java.util.Random;

/**
 * Makes runs of calls by fixed seeds, and holds each answer of Shrinkery against that of NaiveHouse. A thrown
 * exception must be just of the class that is due: one that the machine throws is of another one, or has no text.
 */
public final class AgreementTest {
    private static final int CALLS = 512;

    /** Each method with the ranges of its arguments: g, p, y, c, w are the numbers of what there may be of each. */
    private static final String[] FACE = {
        "number 0:255 0:255", "choice g g 1:9", "list g 0:8", "pair g g", "filter g 2:9 0:8", "depends g g",
        "tree g 0:4", "word 0:5 1:12", "kindOf g", "draw g seed", "type 0:255", "erase", "replay g", "value 0:9",
        "draws", "drawAt 0:20", "inputs g", "inputLength g big", "inputAt g big 0:12", "program",
        "instruct p kind 0:255 0:15", "faultOf p", "output p", "classOf p", "edges p", "level p 0:15 0:16",
        "property prop 0:12 0:5", "require y 1:3 0:2", "holds y", "run y g seed 1:100 0:100", "tested", "discarded",
        "label 0:3", "unseen", "shrink 1:400", "failureClass", "failureDraw 0:12", "failureValue 0:9", "isReplayed",
        "search p g seed 0:100", "corpus", "corpusDraw 0:12 0:9", "energy 0:19", "classes", "foundClass 0:5",
        "leastLength 0:5", "covered", "queue 1:4 0:3", "command 0:3 0:12", "answer c bool", "breaksAt", "makeSmall",
        "commandAt c bool", "beside 0:1 0:1 -9:9", "apart", "schedule any 0:1 0:3", "isInOrder any", "disorders",
        "produce 0:5 sym more more more", "words 0:5 1:12", "letterAt 0:5 1:12 big 0:11", "least p p", "breakShare",
        "isSound",
    };

    private final Random random;
    private final Shrinkery house = new Shrinkery();
    private final NaiveHouse naive = new NaiveHouse();
    private final List<String> calls = new ArrayList<>();
    private static final Map<String, Method> METHODS = new HashMap<>();
    private static final Map<String, Method> NAIVE = new HashMap<>();
    private static final Map<String, int[]> TALLY = new HashMap<>();

    private AgreementTest(long seed) {
        random = new Random(seed);
    }

    public static void main(String[] args) {
        int runs = args.length > 0 ? Integer.parseInt(args[0]) : 400;
        long from = args.length > 1 ? Long.parseLong(args[1]) : 1;
        for (Method m : Shrinkery.class.getDeclaredMethods()) {
            METHODS.put(m.getName(), m);
        }
        for (Method m : NaiveHouse.class.getDeclaredMethods()) {
            if (java.lang.reflect.Modifier.isPublic(m.getModifiers())) {
                NAIVE.put(m.getName(), m);
            }
        }
        for (long seed = from; seed < from + runs; seed++) {
            if (!new AgreementTest(seed).isAgreed()) {
                System.out.println("no agreement by the seed " + seed);
                System.exit(1);
            }
        }
        for (String line : FACE) {
            String name = line.split(" ")[0];
            int[] tally = TALLY.getOrDefault(name, new int[2]);
            if (args.length > 0) {
                System.out.println(name + ": " + tally[0] + " answered, " + tally[1] + " thrown");
            }
            if (tally[0] == 0) {
                System.out.println(name + " was never answered");
                System.exit(1);
            }
        }
        System.out.println(runs + " runs agree");
    }

    private boolean isAgreed() {
        int setUp = 20 + random.nextInt(120);
        int focus = random.nextInt(6);
        for (int i = 0; i < CALLS; i++) {
            String line = i < setUp ? setUpCall(i) : focused(focus);
            String[] words = line.split(" ");
            Object[] arguments = new Object[words.length - 1];
            boolean isWild = random.nextInt(i < setUp ? 40 : 12) == 0;
            for (int j = 0; j < arguments.length; j++) {
                arguments[j] = argument(words[j + 1], isWild && random.nextBoolean());
            }
            if (!isCallAgreed(words[0], arguments)) {
                return false;
            }
        }
        return true;
    }

    private String setUpCall(int i) {
        String[] some = {"number 0:9 9:60", "number 0:3 3:5", "list g 0:8", "choice g g 1:9", "pair g g", "tree g 0:4",
            "filter g 2:4 0:1", "depends g g", "word 0:5 1:6", "program", "program",
            "property prop 0:12 0:5", "property prop 0:200 0:5", "produce 0:5 sym more more more",
            "produce 0:2 sym more more more", "command 0:3 0:12", "command 0:3 0:12", "beside 0:1 0:1 -9:9",
            "type 0:255", "instruct p kind 0:12 0:15", "instruct p kind 0:12 0:15", "instruct p kind 0:12 0:15",
            "instruct p kind 0:12 0:15", "instruct p kind 0:12 0:15"};
        return i == 0 ? "number 0:2 3:9" : some[random.nextInt(some.length)];
    }

    private String focused(int focus) {
        String[][] some = {
            {"run y g seed 1:100 0:100", "shrink 1:400", "failureDraw 0:12", "failureValue 0:9", "isReplayed",
                "least p p", "unseen", "instruct p kind 0:12 0:15"},
            {"search p g seed 20:100", "corpusDraw 0:12 0:9", "energy 0:19", "foundClass 0:5", "leastLength 0:5",
                "covered"},
            {"command 0:3 0:12", "answer c bool", "breaksAt", "makeSmall", "commandAt c bool", "queue 1:4 0:3"},
            {"beside 0:1 0:1 -9:9", "schedule any 0:1 0:3", "isInOrder any", "disorders"},
            {"words 0:5 1:12", "letterAt 0:5 1:12 0:9 0:11", "letterAt 0:5 1:12 big 0:11", "draw g seed", "value 0:9"},
            {"draw g seed", "replay g", "value 0:9", "level p 0:15 0:16", "faultOf p", "classOf p", "holds y",
                "inputAt g big 0:12", "inputLength g big", "edges p", "output p"},
        };
        if (random.nextInt(3) == 0) {
            return FACE[random.nextInt(FACE.length)];
        }
        return some[focus][random.nextInt(some[focus].length)];
    }

    private int between(int least, int most) {
        return least + random.nextInt(most - least + 1);
    }

    private Object argument(String range, boolean isWild) {
        int[] wild = {-1, 0, 1, 16, 17, 60, 255, 256, Integer.MIN_VALUE, Integer.MAX_VALUE, -2, 10000, 10001};
        switch (range) {
            case "bool":
                return random.nextBoolean();
            case "kind":
                return isWild ? (char) random.nextInt(300) : "rrr++*%<<<==ejoox".charAt(random.nextInt(17));
            case "prop":
                return isWild ? (char) random.nextInt(300) : "souppddd".charAt(random.nextInt(8));
            default:
                break;
        }
        if (isWild) {
            return wild[random.nextInt(wild.length)];
        }
        switch (range) {
            case "g":
                return between(0, 15);
            case "p":
                return between(0, 3);
            case "y":
                return between(0, 7);
            case "c":
                return between(0, 12);
            case "seed":
                return random.nextInt(20) == 0 ? random.nextInt() : between(0, 50);
            case "any":
                return random.nextInt(4) == 0 ? random.nextInt() : random.nextInt(1 << 16);
            case "big":
                return random.nextInt(1 << between(1, 30));
            case "sym":
                return random.nextBoolean() ? between(0, 5) : between(10, 99);
            case "more":
                return random.nextInt(3) == 0 ? -1 : random.nextBoolean() ? between(0, 5) : between(10, 14);
            default:
                String[] ends = range.split(":");
                return between(Integer.parseInt(ends[0]), Integer.parseInt(ends[1]));
        }
    }

    private static Object answer(Map<String, Method> methods, Object of, String name, Object[] arguments) {
        try {
            return methods.get(name).invoke(of, arguments);
        } catch (InvocationTargetException e) {
            Throwable thrown = e.getCause();
            boolean isOfMachine = of instanceof Shrinkery && thrown.getMessage() == null;
            if (!(thrown instanceof RuntimeException) || isOfMachine) {
                thrown.printStackTrace();
            }
            return "throws " + thrown.getClass().getName() + (isOfMachine ? " of the machine" : "");
        } catch (IllegalAccessException e) {
            return "no access";
        }
    }

    private boolean isCallAgreed(String name, Object[] arguments) {
        Object due = answer(NAIVE, naive, name, arguments);
        Object got = answer(METHODS, house, name, arguments);
        calls.add(name + Arrays.toString(arguments) + " -> " + due);
        int[] tally = TALLY.computeIfAbsent(name, n -> new int[2]);
        tally[due.toString().startsWith("throws ") ? 1 : 0]++;
        if (due.equals(got)) {
            return true;
        }
        calls.forEach(System.out::println);
        System.out.println("the last call answered " + got + ", due is " + due);
        return false;
    }
}
