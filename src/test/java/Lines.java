import java.io.IOException;
import java.nio.file.Files;
import java.nio.file.Path;
import java.util.LinkedHashSet;
import java.util.Set;

/** Tests of lines of the promises, each one quoted, and three houses for them: an empty one, one with some of each, a full one. */
abstract class Lines extends Checks {
    /** The lines that no test has quoted yet, each behind the number of its promise. */
    private static final Set<String> left = new LinkedHashSet<>();

    interface House {
        Shrinkery make();
    }

    interface On {
        Object answer(Shrinkery x);
    }

    /** Reads the lines that begin in one of some ways: a sentence that goes on over several lines is one of them. */
    static void readLines(String... beginnings) throws IOException {
        String document = Files.readString(Path.of("../shared/DOC.md"));
        for (int i = 1; i <= 65; i++) {
            int start = document.indexOf("## Promise " + i + ":");
            int end = document.indexOf("\n## ", start);
            for (String line : document.substring(start, end).split("\n\\s*\n|\n(?=- )")) {
                for (String beginning : beginnings) {
                    if (line.strip().startsWith(beginning)) {
                        left.add(i + " " + line.strip().replaceAll("\\s+", " "));
                    }
                }
            }
        }
    }

    static void line(int promise, String quotation, Runnable test) {
        about = "promise " + promise + ", " + quotation;
        if (!left.remove(promise + " " + quotation)) {
            tellWrong("the document does not say so, or says it once");
        }
        int before = checks;
        try {
            test.run();
        } catch (RuntimeException e) {
            tellWrong("a call that is no check throws " + e + " at " + java.util.Arrays.toString(e.getStackTrace()));
        }
        if (checks == before) {
            tellWrong("there is no check");
        }
    }

    static void tellUnquoted() {
        about = "the document's promises";
        for (String line : left) {
            tellWrong("no test for: " + line);
        }
    }

    static Shrinkery empty() {
        return new Shrinkery();
    }

    /**
     * Nine generators, one of each kind and one without words; three programs, the first one with a fault; four
     * properties; a failure, a run and a search; five typed draws, an input of two values; five commands that break
     * at the third one; two commands beside one.
     */
    static Shrinkery middle() {
        Shrinkery x = new Shrinkery();
        x.produce(0, 0, 10, 0, -1);
        x.produce(0, 11, -1, -1, -1);
        x.produce(1, 20, -1, -1, -1);
        x.produce(1, 21, -1, -1, -1);
        x.number(0, 255);
        x.list(0, 8);
        x.choice(0, 1, 2);
        x.pair(0, 0);
        x.filter(0, 2, 0);
        x.depends(0, 0);
        x.tree(0, 2);
        x.word(0, 3);
        x.word(5, 12);
        code(x, "r <100:3 x1 x2");
        code(x, "r <100:3 +1 o");
        code(x, "r o");
        x.property('s', 0, 0);
        x.property('p', 0, 0);
        x.property('d', 1, 2);
        x.property('s', 10000, 0);
        x.require(2, 3, 1);
        x.run(1, 3, 5, 1, 0);
        x.run(3, 1, 3, 5, 0);
        x.search(0, 1, 9, 30);
        for (int draw : new int[] {2, 7, 8, 9, 10}) {
            x.type(draw);
        }
        x.replay(1);
        x.queue(2, 1);
        x.command(0, 5);
        x.command(0, 6);
        x.command(2, 0);
        x.command(3, 2);
        x.command(1, 0);
        x.beside(0, 1, 5);
        x.beside(0, 0, 0);
        x.beside(1, 1, 7);
        return x;
    }

    /** As many of all as there may be, but without an input, a run, a failure, and a search. */
    static Shrinkery full() {
        Shrinkery x = new Shrinkery();
        for (int i = 0; i < 16; i++) {
            x.number(0, i);
        }
        for (int i = 0; i < 6; i++) {
            x.program();
        }
        for (int i = 0; i < 16; i++) {
            x.instruct(5, 'r', 0, 0);
        }
        for (int i = 0; i < 8; i++) {
            x.property('o', 0, 0);
        }
        for (int i = 0; i < 60; i++) {
            x.type(i);
        }
        for (int i = 0; i < 20; i++) {
            x.command(0, i);
        }
        for (int i = 0; i < 4; i++) {
            x.beside(0, 1, i);
            x.beside(1, 1, -i);
            x.produce(0, 10 + i, -1, -1, -1);
        }
        return x;
    }

    /** What a house answers, as a text: by some 300 calls, of which the last ones show what no call tells by itself. */
    static String tell(Shrinkery x) {
        StringBuilder all = new StringBuilder();
        ask(all, 17, i -> x.kindOf(i));
        ask(all, 17, i -> x.inputs(i) + ":" + x.inputLength(i, 1));
        ask(all, 5, i -> x.value(i));
        ask(all, 5, i -> x.drawAt(i));
        ask(all, 1, i -> x.draws());
        ask(all, 7, i -> x.output(i) + ":" + x.faultOf(i) + ":" + x.edges(i));
        ask(all, 9, i -> x.holds(i));
        ask(all, 4, i -> x.label(i));
        ask(all, 1, i -> x.tested() + ":" + x.discarded());
        ask(all, 1, i -> x.unseen());
        ask(all, 1, i -> x.breakShare());
        ask(all, 1, i -> x.failureClass() + ":" + x.isReplayed());
        ask(all, 5, i -> x.failureDraw(i));
        ask(all, 5, i -> x.failureValue(i));
        ask(all, 1, i -> x.corpus() + ":" + x.classes() + ":" + x.covered());
        ask(all, 21, i -> x.energy(i) + ":" + x.corpusDraw(i, 0));
        ask(all, 11, i -> x.foundClass(i) + ":" + x.leastLength(i));
        ask(all, 21, i -> x.commandAt(i, true) + ":" + x.commandAt(i, false));
        ask(all, 21, i -> x.answer(i, false));
        ask(all, 1, i -> x.breaksAt());
        ask(all, 5, i -> x.schedule(10, 0, i));
        ask(all, 5, i -> x.schedule(10, 1, i));
        ask(all, 1, i -> x.disorders());
        ask(all, 6, i -> x.words(i, 1) + ":" + x.words(i, 3));
        ask(all, 1, i -> x.letterAt(0, 1, 0, 0));
        ask(all, 1, i -> x.least(1, 0));
        ask(all, 1, i -> x.isSound());
        ask(all, 1, i -> x.replay(3) + ":" + x.drawAt(0));
        ask(all, 1, i -> x.erase());
        ask(all, 9, i -> x.require(i, 1, 0));
        ask(all, 1, i -> x.command(3, 0));
        ask(all, 1, i -> x.makeSmall());
        ask(all, 1, i -> x.queue(1, 0));
        ask(all, 1, i -> x.apart());
        ask(all, 1, i -> x.shrink(400));
        ask(all, 1, i -> x.failureClass());
        ask(all, 1, i -> x.run(0, 0, 1, 3, 3));
        ask(all, 1, i -> x.breakShare());
        ask(all, 6, i -> x.produce(i, 10, -1, -1, -1));
        ask(all, 7, i -> x.instruct(i, 'o', 0, 0));
        ask(all, 1, i -> x.number(0, 0));
        ask(all, 1, i -> x.property('o', 0, 0));
        ask(all, 1, i -> x.program());
        return all.toString();
    }

    private interface At {
        Object answer(int index);
    }

    /** The answers for the numbers from 0 on, up to the first one that throws. */
    private static void ask(StringBuilder all, int most, At call) {
        for (int i = 0; i < most; i++) {
            int index = i;
            Object answer = answerOf(() -> call.answer(index));
            all.append(answer).append(' ');
            if (answer instanceof Class && !answer.equals(UNSUPPORTED)) {
                return;
            }
        }
    }
}
