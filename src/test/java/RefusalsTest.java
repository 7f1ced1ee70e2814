import java.io.IOException;

/**
 * Each refused call of each promise: it throws what is listed first, and the calls behind it answer as if it had not
 * been made. The houses are an empty one, one with some of each, and a full one.
 */
public final class RefusalsTest extends Lines {
    private static final String NO_GENERATOR = "Throws `IndexOutOfBoundsException` if there is no such generator";
    private static final String NO_PROGRAM = "Throws `IndexOutOfBoundsException` if there is no such program";
    private static final String OUT_OF_RANGE = "Throws `IllegalArgumentException` if a number is out of range";
    private static final String SIXTEEN = "Throws `IllegalStateException` if there are 16 generators";
    private static final String UNCOUNTED =
            "Throws `UnsupportedOperationException` if a filter, dependence or words are in it";
    private static final String DISCARDED = "Throws `NoSuchElementException` if it is discarded";
    private static final String NO_INPUT = "Throws `NoSuchElementException` if there is no input";
    private static final String NO_FAILURE = "Throws `NoSuchElementException` if there is no failure";

    public static void main(String[] args) throws IOException {
        readLines("Throws ");
        generators();
        inputs();
        allInputs();
        programs();
        properties();
        failures();
        searches();
        queues();
        sides();
        grammars();
        tellUnquoted();
        end("the refused calls of 65 promises");
    }

    private static void refused(Class<?> due, House house, On... calls) {
        String untouched = tell(house.make());
        for (On call : calls) {
            Shrinkery x = house.make();
            due(due, () -> call.answer(x));
            due(untouched, () -> tell(x));
        }
    }

    private static void inEmpty(Class<?> due, On... calls) {
        refused(due, RefusalsTest::emptyHouse, calls);
    }

    private static Shrinkery emptyHouse() {
        return empty();
    }

    private static void inMiddle(Class<?> due, On... calls) {
        refused(due, RefusalsTest::middleHouse, calls);
    }

    private static Shrinkery middleHouse() {
        return middle();
    }

    private static void inFull(Class<?> due, On... calls) {
        refused(due, RefusalsTest::fullHouse, calls);
    }

    private static Shrinkery fullHouse() {
        return full();
    }

    private static void generators() {
        line(2, OUT_OF_RANGE, () -> {
            On[] calls = {x -> x.number(-1, 5), x -> x.number(5, 4), x -> x.number(0, 256), x -> x.number(256, 256),
                x -> x.number(256, 255), x -> x.number(0, -1), x -> x.number(LEAST, MOST), x -> x.number(MOST, LEAST)};
            inEmpty(IAE, calls);
            inMiddle(IAE, calls);
            inFull(IAE, calls);
        });
        line(2, SIXTEEN, () -> inFull(ISE, x -> x.number(0, 0), x -> x.number(0, 255), x -> x.number(255, 255)));
        line(3, NO_GENERATOR, () -> {
            inEmpty(OUT, x -> x.choice(0, 0, 1), x -> x.choice(0, 0, 0), x -> x.choice(-1, -1, 10));
            inMiddle(OUT, x -> x.choice(9, 0, 1), x -> x.choice(0, 9, 1), x -> x.choice(-1, 0, 1),
                    x -> x.choice(0, -1, 1), x -> x.choice(9, 0, 0), x -> x.choice(0, 9, 10),
                    x -> x.choice(LEAST, MOST, LEAST), x -> x.choice(0, MOST, 5));
            inFull(OUT, x -> x.choice(16, 0, 1), x -> x.choice(0, 16, 0), x -> x.choice(15, -1, 10));
        });
        line(3, OUT_OF_RANGE, () -> {
            On[] calls = {x -> x.choice(0, 0, 0), x -> x.choice(0, 8, 10), x -> x.choice(0, 0, -1),
                x -> x.choice(8, 0, LEAST), x -> x.choice(0, 0, MOST)};
            inMiddle(IAE, calls);
            inFull(IAE, calls);
        });
        line(3, SIXTEEN, () -> inFull(ISE, x -> x.choice(0, 0, 1), x -> x.choice(15, 15, 9)));
        line(4, NO_GENERATOR, () -> {
            inEmpty(OUT, x -> x.list(0, 0), x -> x.list(0, 9));
            inMiddle(OUT, x -> x.list(9, 0), x -> x.list(-1, 0), x -> x.list(9, -1), x -> x.list(MOST, 9));
            inFull(OUT, x -> x.list(16, 0), x -> x.list(-1, 9));
        });
        line(4, OUT_OF_RANGE, () -> {
            On[] calls = {x -> x.list(0, -1), x -> x.list(8, 9), x -> x.list(0, LEAST), x -> x.list(0, MOST)};
            inMiddle(IAE, calls);
            inFull(IAE, calls);
        });
        line(4, SIXTEEN, () -> inFull(ISE, x -> x.list(0, 0), x -> x.list(15, 8)));
        line(5, NO_GENERATOR, () -> {
            inEmpty(OUT, x -> x.pair(0, 0));
            inMiddle(OUT, x -> x.pair(9, 0), x -> x.pair(0, 9), x -> x.pair(-1, 0), x -> x.pair(0, -1));
            inFull(OUT, x -> x.pair(16, 0), x -> x.pair(0, 16), x -> x.pair(LEAST, MOST));
        });
        line(5, SIXTEEN, () -> inFull(ISE, x -> x.pair(0, 0), x -> x.pair(15, 15)));
        line(6, NO_GENERATOR, () -> {
            inEmpty(OUT, x -> x.filter(0, 2, 0), x -> x.filter(0, 1, 1));
            inMiddle(OUT, x -> x.filter(9, 2, 0), x -> x.filter(-1, 2, 0), x -> x.filter(9, 1, 0),
                    x -> x.filter(9, 2, 2));
            inFull(OUT, x -> x.filter(16, 2, 0), x -> x.filter(16, 10, -1));
        });
        line(6, OUT_OF_RANGE, () -> {
            On[] calls = {x -> x.filter(0, 1, 0), x -> x.filter(0, 10, 0), x -> x.filter(0, 2, 2),
                x -> x.filter(0, 2, -1), x -> x.filter(0, 9, 9), x -> x.filter(8, 0, 0), x -> x.filter(0, LEAST, -1),
                x -> x.filter(0, MOST, 5), x -> x.filter(0, 5, MOST), x -> x.filter(0, 5, LEAST)};
            inMiddle(IAE, calls);
            inFull(IAE, calls);
        });
        line(6, SIXTEEN, () -> inFull(ISE, x -> x.filter(0, 2, 0), x -> x.filter(15, 9, 8)));
        line(7, NO_GENERATOR, () -> {
            inEmpty(OUT, x -> x.depends(0, 0));
            inMiddle(OUT, x -> x.depends(9, 0), x -> x.depends(0, 9), x -> x.depends(-1, 0), x -> x.depends(0, -1));
            inFull(OUT, x -> x.depends(16, 0), x -> x.depends(0, 16));
        });
        line(7, SIXTEEN, () -> inFull(ISE, x -> x.depends(0, 0), x -> x.depends(15, 15)));
        line(8, NO_GENERATOR, () -> {
            inEmpty(OUT, x -> x.tree(0, 0), x -> x.tree(0, 5));
            inMiddle(OUT, x -> x.tree(9, 0), x -> x.tree(-1, 0), x -> x.tree(9, -1), x -> x.tree(-1, 5));
            inFull(OUT, x -> x.tree(16, 0), x -> x.tree(16, 5));
        });
        line(8, OUT_OF_RANGE, () -> {
            On[] calls = {x -> x.tree(0, -1), x -> x.tree(8, 5), x -> x.tree(0, LEAST), x -> x.tree(0, MOST)};
            inMiddle(IAE, calls);
            inFull(IAE, calls);
        });
        line(8, SIXTEEN, () -> inFull(ISE, x -> x.tree(0, 0), x -> x.tree(15, 4)));
        line(9, OUT_OF_RANGE, () -> {
            On[] calls = {x -> x.word(-1, 1), x -> x.word(6, 1), x -> x.word(0, 0), x -> x.word(0, 13),
                x -> x.word(5, -1), x -> x.word(LEAST, 1), x -> x.word(0, MOST)};
            inEmpty(IAE, calls);
            inMiddle(IAE, calls);
            inFull(IAE, calls);
        });
        line(9, SIXTEEN, () -> inFull(ISE, x -> x.word(0, 1), x -> x.word(5, 12)));
        line(10, NO_GENERATOR, () -> {
            inEmpty(OUT, x -> x.kindOf(0), x -> x.kindOf(-1));
            inMiddle(OUT, x -> x.kindOf(9), x -> x.kindOf(-1), x -> x.kindOf(MOST), x -> x.kindOf(LEAST));
            inFull(OUT, x -> x.kindOf(16));
        });
    }

    private static void inputs() {
        line(11, NO_GENERATOR, () -> {
            inEmpty(OUT, x -> x.draw(0, 1), x -> x.draw(-1, 1));
            inMiddle(OUT, x -> x.draw(9, 1), x -> x.draw(-1, 1), x -> x.draw(LEAST, 1));
            inFull(OUT, x -> x.draw(16, 1));
        });
        line(11, DISCARDED, () -> {
            inMiddle(NONE, x -> x.draw(8, 1), x -> x.draw(8, LEAST));
            refused(NONE, RefusalsTest::discarding, x -> x.draw(7, 1), x -> x.draw(8, 1), x -> x.draw(9, 1),
                    x -> x.draw(10, 1));
        });
        line(12, OUT_OF_RANGE, () -> {
            On[] calls = {x -> x.type(-1), x -> x.type(256), x -> x.type(LEAST), x -> x.type(MOST)};
            inEmpty(IAE, calls);
            inMiddle(IAE, calls);
            inFull(IAE, calls);
        });
        line(12, "Throws `IllegalStateException` if it has 60", () -> inFull(ISE, x -> x.type(0), x -> x.type(255)));
        line(14, NO_GENERATOR, () -> {
            inEmpty(OUT, x -> x.replay(0), x -> x.replay(-1));
            inMiddle(OUT, x -> x.replay(9), x -> x.replay(-1));
            inFull(OUT, x -> x.replay(16));
        });
        line(14, DISCARDED, () -> {
            inMiddle(NONE, x -> x.replay(8));
            refused(NONE, RefusalsTest::discarding, x -> x.replay(7), x -> x.replay(8), x -> x.replay(9),
                    x -> x.replay(10));
        });
        line(15, "Throws `IndexOutOfBoundsException` if there is no such value", () -> {
            inEmpty(OUT, x -> x.value(0), x -> x.value(-1));
            inMiddle(OUT, x -> x.value(2), x -> x.value(-1), x -> x.value(MOST));
            inFull(OUT, x -> x.value(0));
        });
        line(17, "Throws `IndexOutOfBoundsException` if there is no such draw", () -> {
            inEmpty(OUT, x -> x.drawAt(0), x -> x.drawAt(-1));
            inMiddle(OUT, x -> x.drawAt(3), x -> x.drawAt(-1), x -> x.drawAt(LEAST));
            inFull(OUT, x -> x.drawAt(0));
        });
    }

    /** The generators 7 to 10 discard: for 41 values, for 61 draws, by a filter of whatever is made, and by no word. */
    private static Shrinkery discarding() {
        Shrinkery x = new Shrinkery();
        x.number(1, 1);
        for (int i = 0; i < 5; i++) {
            x.pair(i, i);
        }
        x.pair(5, 3);
        x.pair(6, 0);
        x.depends(7, 5);
        x.filter(0, 2, 0);
        x.word(0, 1);
        x.type(2);
        x.type(3);
        x.replay(1);
        x.property('s', 0, 0);
        x.run(0, 1, 1, 1, 0);
        return x;
    }

    private static void allInputs() {
        line(18, NO_GENERATOR, () -> {
            inEmpty(OUT, x -> x.inputs(0));
            inMiddle(OUT, x -> x.inputs(9), x -> x.inputs(-1));
            inFull(OUT, x -> x.inputs(16));
        });
        line(18, UNCOUNTED, () -> inMiddle(UNSUPPORTED, x -> x.inputs(4), x -> x.inputs(5), x -> x.inputs(7),
                x -> x.inputs(8)));
        line(19, NO_GENERATOR, () -> {
            inEmpty(OUT, x -> x.inputLength(0, 0));
            inMiddle(OUT, x -> x.inputLength(9, 0), x -> x.inputLength(-1, -1));
            inFull(OUT, x -> x.inputLength(16, 0), x -> x.inputLength(16, 999));
        });
        line(19, UNCOUNTED, () -> inMiddle(UNSUPPORTED, x -> x.inputLength(4, 0), x -> x.inputLength(5, -1),
                x -> x.inputLength(7, 0), x -> x.inputLength(8, MOST)));
        line(19, "Throws `NoSuchElementException` if there is no such input", () -> {
            inMiddle(NONE, x -> x.inputLength(0, 256), x -> x.inputLength(0, -1), x -> x.inputLength(1, 1000000000),
                    x -> x.inputLength(3, 65536), x -> x.inputLength(0, LEAST), x -> x.inputLength(0, MOST));
            inFull(NONE, x -> x.inputLength(15, 16), x -> x.inputLength(0, 1));
        });
        line(20, NO_GENERATOR, () -> {
            inEmpty(OUT, x -> x.inputAt(0, 0, 0));
            inMiddle(OUT, x -> x.inputAt(9, 0, 0), x -> x.inputAt(-1, -1, -1));
            inFull(OUT, x -> x.inputAt(16, 999, 999));
        });
        line(20, UNCOUNTED, () -> inMiddle(UNSUPPORTED, x -> x.inputAt(4, 0, 0), x -> x.inputAt(5, -1, 0),
                x -> x.inputAt(7, 0, -1), x -> x.inputAt(8, MOST, MOST)));
        line(20, "Throws `NoSuchElementException` if there is no such input, or value of it", () -> {
            inMiddle(NONE, x -> x.inputAt(0, 256, 0), x -> x.inputAt(0, -1, 0), x -> x.inputAt(0, 5, 1),
                    x -> x.inputAt(0, 5, -1), x -> x.inputAt(1, 0, 0), x -> x.inputAt(3, 0, 2),
                    x -> x.inputAt(1, 1000000000, 0), x -> x.inputAt(0, 0, MOST), x -> x.inputAt(0, 0, LEAST));
            inFull(NONE, x -> x.inputAt(15, 16, 0), x -> x.inputAt(15, 15, 1));
        });
    }

    private static void programs() {
        line(21, "Throws `IllegalStateException` if there are 6", () -> inFull(ISE, x -> x.program()));
        line(22, NO_PROGRAM, () -> {
            inEmpty(OUT, x -> x.instruct(0, 'r', 0, 0), x -> x.instruct(0, 'q', -1, -1));
            inMiddle(OUT, x -> x.instruct(3, 'r', 0, 0), x -> x.instruct(-1, 'r', 0, 0),
                    x -> x.instruct(3, 'q', 0, 0), x -> x.instruct(3, '+', 256, 0), x -> x.instruct(3, 'j', 0, 16));
            inFull(OUT, x -> x.instruct(6, 'r', 0, 0));
        });
        line(22, "Throws `IllegalArgumentException` if there is no such kind, or a number is out of range", () -> {
            On[] calls = {x -> x.instruct(0, 'q', 0, 0), x -> x.instruct(0, 'R', 0, 0), x -> x.instruct(0, '\0', 0, 0),
                x -> x.instruct(0, (char) ('r' + 256), 0, 0), x -> x.instruct(0, '+', 256, 0),
                x -> x.instruct(0, '*', -1, 0), x -> x.instruct(0, '%', 256, 0), x -> x.instruct(0, '<', -1, 0),
                x -> x.instruct(0, '=', 256, 0), x -> x.instruct(0, 'x', -1, 0), x -> x.instruct(0, '<', 0, 16),
                x -> x.instruct(0, '=', 0, -1), x -> x.instruct(0, 'e', 0, 16), x -> x.instruct(0, 'j', 0, -1),
                x -> x.instruct(0, 'j', LEAST, LEAST), x -> x.instruct(0, '+', MOST, MOST)};
            inMiddle(IAE, calls);
            inFull(IAE, calls);
            inFull(IAE, x -> x.instruct(5, 'q', 0, 0), x -> x.instruct(5, '+', 256, 0), x -> x.instruct(5, 'j', 0, 16));
        });
        line(22, "Throws `IllegalStateException` if it has 16", () -> inFull(ISE, x -> x.instruct(5, 'r', -1, 16),
                x -> x.instruct(5, '+', 255, 0), x -> x.instruct(5, 'j', 0, 15), x -> x.instruct(5, 'x', 0, -1)));
        line(23, NO_PROGRAM, () -> ofProgram((x, p) -> x.faultOf(p)));
        line(23, NO_INPUT, () -> withoutInput((x, p) -> x.faultOf(p)));
        line(24, NO_PROGRAM, () -> ofProgram((x, p) -> x.output(p)));
        line(24, NO_INPUT, () -> withoutInput((x, p) -> x.output(p)));
        line(25, NO_PROGRAM, () -> ofProgram((x, p) -> x.classOf(p)));
        line(25, NO_INPUT, () -> withoutInput((x, p) -> x.classOf(p)));
        line(25, "Throws `UnsupportedOperationException` if it has no fault",
                () -> inMiddle(UNSUPPORTED, x -> x.classOf(1), x -> x.classOf(2)));
        line(26, NO_PROGRAM, () -> ofProgram((x, p) -> x.edges(p)));
        line(26, NO_INPUT, () -> withoutInput((x, p) -> x.edges(p)));
        line(27, NO_PROGRAM, () -> {
            ofProgram((x, p) -> x.level(p, 0, 0));
            ofProgram((x, p) -> x.level(p, 16, 17));
        });
        line(27, OUT_OF_RANGE, () -> {
            On[] calls = {x -> x.level(0, -1, 0), x -> x.level(0, 16, 0), x -> x.level(0, 0, -1),
                x -> x.level(0, 0, 17), x -> x.level(0, LEAST, MOST), x -> x.level(0, MOST, LEAST)};
            inMiddle(IAE, calls);
            inFull(IAE, calls);
        });
        line(27, NO_INPUT, () -> {
            withoutInput((x, p) -> x.level(p, 0, 0));
            withoutInput((x, p) -> x.level(p, 15, 16));
        });
    }

    private interface OfProgram {
        Object answer(Shrinkery x, int program);
    }

    private static void ofProgram(OfProgram call) {
        inEmpty(OUT, x -> call.answer(x, 0), x -> call.answer(x, -1));
        inMiddle(OUT, x -> call.answer(x, 3), x -> call.answer(x, -1), x -> call.answer(x, MOST),
                x -> call.answer(x, LEAST));
        inFull(OUT, x -> call.answer(x, 6), x -> call.answer(x, -1));
    }

    private static void withoutInput(OfProgram call) {
        inFull(NONE, x -> call.answer(x, 0), x -> call.answer(x, 5));
    }

    private static void properties() {
        line(28, "Throws `IllegalArgumentException` if there is no such kind, sum or program", () -> {
            inEmpty(IAE, x -> x.property('p', 0, 0), x -> x.property('d', 0, 0), x -> x.property('q', 0, 0));
            On[] calls = {x -> x.property('q', 0, 0), x -> x.property('S', 0, 0), x -> x.property('\0', 0, 0),
                x -> x.property((char) ('s' + 256), 0, 0), x -> x.property('s', -1, 0),
                x -> x.property('s', 10001, 0), x -> x.property('p', -1, 0), x -> x.property('p', 6, 0),
                x -> x.property('d', -1, 0), x -> x.property('d', 6, 0), x -> x.property('d', 0, 6),
                x -> x.property('d', 0, -1), x -> x.property('s', LEAST, MOST), x -> x.property('p', MOST, 0)};
            inMiddle(IAE, calls);
            inMiddle(IAE, x -> x.property('p', 3, 0), x -> x.property('d', 3, 0), x -> x.property('d', 0, 3));
            inFull(IAE, calls);
        });
        line(28, "Throws `IllegalStateException` if there are 8", () -> inFull(ISE, x -> x.property('s', 0, 0),
                x -> x.property('o', -1, -1), x -> x.property('u', 0, 0), x -> x.property('p', 5, 0),
                x -> x.property('d', 5, 5)));
        line(29, "Throws `IndexOutOfBoundsException` if there is no such property", () -> {
            inEmpty(OUT, x -> x.require(0, 1, 0), x -> x.require(0, 0, 0));
            inMiddle(OUT, x -> x.require(4, 1, 0), x -> x.require(-1, 1, 0), x -> x.require(4, 10, 0));
            inFull(OUT, x -> x.require(8, 1, 0), x -> x.require(8, 1, 1));
        });
        line(29, OUT_OF_RANGE, () -> inMiddle(IAE, x -> x.require(0, 0, 0), x -> x.require(0, 10, 0),
                x -> x.require(0, 1, 1), x -> x.require(2, 9, 9), x -> x.require(2, 9, -1), x -> x.require(2, -3, 0),
                x -> x.require(2, LEAST, MOST), x -> x.require(2, MOST, 0), x -> x.require(2, 5, LEAST)));
        line(30, "Throws `IndexOutOfBoundsException` if there is no such property", () -> {
            inEmpty(OUT, x -> x.holds(0), x -> x.holds(-1));
            inMiddle(OUT, x -> x.holds(4), x -> x.holds(-1));
            inFull(OUT, x -> x.holds(8), x -> x.holds(LEAST));
        });
        line(30, NO_INPUT, () -> inFull(NONE, x -> x.holds(0), x -> x.holds(7)));
        line(31, "Throws `IndexOutOfBoundsException` if there is no such property or generator", () -> {
            inEmpty(OUT, x -> x.run(0, 0, 1, 1, 0), x -> x.run(0, 0, 1, 0, -1));
            inMiddle(OUT, x -> x.run(4, 0, 1, 1, 0), x -> x.run(-1, 0, 1, 1, 0), x -> x.run(0, 9, 1, 1, 0),
                    x -> x.run(0, -1, 1, 1, 0), x -> x.run(4, 0, 1, 0, 0), x -> x.run(0, 9, 1, 101, 101));
            inFull(OUT, x -> x.run(8, 0, 1, 1, 0), x -> x.run(0, 16, 1, 1, -1));
        });
        line(31, OUT_OF_RANGE, () -> {
            On[] calls = {x -> x.run(0, 0, 1, 0, 0), x -> x.run(0, 0, 1, 101, 0), x -> x.run(0, 0, 1, 1, -1),
                x -> x.run(0, 0, 1, 1, 101), x -> x.run(0, 0, 1, LEAST, 0), x -> x.run(0, 0, 1, 1, MOST)};
            inMiddle(IAE, calls);
            inFull(IAE, calls);
        });
        line(34, OUT_OF_RANGE, () -> {
            On[] calls = {x -> x.label(-1), x -> x.label(4), x -> x.label(LEAST), x -> x.label(MOST)};
            inEmpty(IAE, calls);
            inMiddle(IAE, calls);
        });
        line(35, "Throws `ArithmeticException` if no input of it was not discarded", () -> {
            inEmpty(ARITHMETIC, x -> x.unseen());
            inFull(ARITHMETIC, x -> x.unseen());
            refused(ARITHMETIC, RefusalsTest::givenUp, x -> x.unseen());
            due(1.0, () -> {
                Shrinkery x = givenUp();
                x.run(0, 0, 1, 1, 0);
                return x.unseen();
            });
        });
        line(64, "Throws `ArithmeticException` if there were none", () -> {
            inEmpty(ARITHMETIC, x -> x.breakShare());
            inFull(ARITHMETIC, x -> x.breakShare());
            due(0.0f, () -> {
                Shrinkery x = full();
                x.run(0, 0, 1, 1, 0);
                return x.breakShare();
            });
        });
    }

    /** A house whose last run discarded all of its inputs. */
    private static Shrinkery givenUp() {
        Shrinkery x = middle();
        x.run(0, 8, 1, 1, 5);
        return x;
    }

    private static void failures() {
        line(36, OUT_OF_RANGE, () -> {
            On[] calls = {x -> x.shrink(0), x -> x.shrink(401), x -> x.shrink(-1), x -> x.shrink(LEAST),
                x -> x.shrink(MOST)};
            inEmpty(IAE, calls);
            inMiddle(IAE, calls);
            inFull(IAE, calls);
        });
        line(36, NO_FAILURE, () -> {
            inEmpty(NONE, x -> x.shrink(1), x -> x.shrink(400));
            inFull(NONE, x -> x.shrink(1));
        });
        line(37, NO_FAILURE, () -> {
            inEmpty(NONE, x -> x.failureClass());
            inFull(NONE, x -> x.failureClass());
        });
        line(38, NO_FAILURE, () -> {
            inEmpty(NONE, x -> x.failureDraw(0), x -> x.failureDraw(-1));
            inFull(NONE, x -> x.failureDraw(0), x -> x.failureDraw(60));
        });
        line(38, "Throws `IndexOutOfBoundsException` if there is no such draw", () -> inMiddle(OUT,
                x -> x.failureDraw(2), x -> x.failureDraw(-1), x -> x.failureDraw(MOST), x -> x.failureDraw(LEAST)));
        line(39, NO_FAILURE, () -> {
            inEmpty(NONE, x -> x.failureValue(0), x -> x.failureValue(-1));
            inFull(NONE, x -> x.failureValue(0), x -> x.failureValue(40));
        });
        line(39, "Throws `IndexOutOfBoundsException` if there is no such value", () -> inMiddle(OUT,
                x -> x.failureValue(2), x -> x.failureValue(-1), x -> x.failureValue(MOST)));
        line(40, NO_FAILURE, () -> {
            inEmpty(NONE, x -> x.isReplayed());
            inFull(NONE, x -> x.isReplayed());
        });
        line(63, "Throws `IndexOutOfBoundsException` if there is no such program, for either", () -> {
            inEmpty(OUT, x -> x.least(0, 0));
            inMiddle(OUT, x -> x.least(3, 0), x -> x.least(0, 3), x -> x.least(-1, 0), x -> x.least(2, -1));
            inFull(OUT, x -> x.least(6, 0), x -> x.least(5, 6), x -> x.least(MOST, LEAST));
        });
        line(63, "Throws `UnsupportedOperationException` if they have not as many instructions", () -> {
            inMiddle(UNSUPPORTED, x -> x.least(0, 2), x -> x.least(2, 1));
            inFull(UNSUPPORTED, x -> x.least(0, 5), x -> x.least(5, 4));
        });
        line(63, "Throws `NoSuchElementException` if there is no failure, or not even all changes break", () -> {
            inFull(NONE, x -> x.least(0, 1), x -> x.least(5, 5));
            refused(NONE, RefusalsTest::faulty, x -> x.least(0, 0), x -> x.least(0, 1), x -> x.least(1, 0));
            inMiddle(NONE, x -> x.least(0, 1), x -> x.least(1, 1), x -> x.least(2, 2));
            due(4, () -> middle().least(1, 0));
        });
    }

    /** Two programs with a fault each, and no failure. */
    private static Shrinkery faulty() {
        Shrinkery x = new Shrinkery();
        code(x, "x1");
        code(x, "x2");
        return x;
    }

    private static void searches() {
        line(41, "Throws `IndexOutOfBoundsException` if there is no such program or generator", () -> {
            inEmpty(OUT, x -> x.search(0, 0, 1, 1), x -> x.search(0, 0, 1, -1));
            inMiddle(OUT, x -> x.search(3, 0, 1, 1), x -> x.search(0, 9, 1, 1), x -> x.search(-1, 0, 1, 1),
                    x -> x.search(0, -1, 1, 1), x -> x.search(3, 0, 1, 101), x -> x.search(0, 9, 1, -1));
            inFull(OUT, x -> x.search(6, 0, 1, 0), x -> x.search(0, 16, 1, 0));
        });
        line(41, OUT_OF_RANGE, () -> {
            On[] calls = {x -> x.search(0, 0, 1, -1), x -> x.search(0, 0, 1, 101), x -> x.search(0, 0, 1, LEAST),
                x -> x.search(0, 0, 1, MOST)};
            inMiddle(IAE, calls);
            inFull(IAE, calls);
        });
        line(43, "Throws `IndexOutOfBoundsException` if there is no such row, or draw", () -> {
            inEmpty(OUT, x -> x.corpusDraw(0, 0), x -> x.corpusDraw(-1, -1));
            refused(OUT, RefusalsTest::searched, x -> x.corpusDraw(1, 0), x -> x.corpusDraw(-1, 0),
                    x -> x.corpusDraw(0, 2), x -> x.corpusDraw(0, -1), x -> x.corpusDraw(MOST, 0),
                    x -> x.corpusDraw(0, MOST));
            inFull(OUT, x -> x.corpusDraw(0, 0));
        });
        line(44, "Throws `IndexOutOfBoundsException` if there is no such row", () -> {
            inEmpty(OUT, x -> x.energy(0), x -> x.energy(-1));
            refused(OUT, RefusalsTest::searched, x -> x.energy(1), x -> x.energy(-1), x -> x.energy(MOST));
        });
        line(46, "Throws `IndexOutOfBoundsException` if there is no such class", () -> {
            inEmpty(OUT, x -> x.foundClass(0), x -> x.foundClass(-1));
            refused(OUT, RefusalsTest::searched, x -> x.foundClass(1), x -> x.foundClass(-1), x -> x.foundClass(10));
        });
        line(47, "Throws `IndexOutOfBoundsException` if there is no such class", () -> {
            inEmpty(OUT, x -> x.leastLength(0), x -> x.leastLength(-1));
            refused(OUT, RefusalsTest::searched, x -> x.leastLength(1), x -> x.leastLength(-1),
                    x -> x.leastLength(10));
        });
    }

    /** A search whose corpus is one row of two draws, with one class. */
    private static Shrinkery searched() {
        Shrinkery x = middle();
        x.search(0, 3, 1, 0);
        return x;
    }

    private static void queues() {
        line(49, OUT_OF_RANGE, () -> {
            On[] calls = {x -> x.queue(0, 0), x -> x.queue(5, 0), x -> x.queue(1, -1), x -> x.queue(4, 4),
                x -> x.queue(LEAST, MOST), x -> x.queue(MOST, 0), x -> x.queue(1, LEAST)};
            inEmpty(IAE, calls);
            inMiddle(IAE, calls);
            inFull(IAE, calls);
        });
        line(50, OUT_OF_RANGE, () -> {
            inEmpty(IAE, x -> x.command(3, 0), x -> x.command(3, -1), x -> x.command(4, 0));
            inMiddle(IAE, x -> x.command(4, 0), x -> x.command(-1, 0), x -> x.command(0, 100),
                    x -> x.command(0, -1), x -> x.command(3, 5), x -> x.command(3, -1), x -> x.command(MOST, 0),
                    x -> x.command(3, LEAST));
            inFull(IAE, x -> x.command(4, 0), x -> x.command(-1, 0), x -> x.command(0, 100), x -> x.command(3, 20),
                    x -> x.command(3, -1), x -> x.command(0, MOST));
        });
        line(50, "Throws `IllegalStateException` if there are 20", () -> inFull(ISE, x -> x.command(0, 0),
                x -> x.command(0, 99), x -> x.command(1, MOST), x -> x.command(2, LEAST), x -> x.command(3, 19)));
        line(51, "Throws `IndexOutOfBoundsException` if there is no such command", () -> {
            inEmpty(OUT, x -> x.answer(0, true), x -> x.answer(0, false), x -> x.answer(-1, true));
            inMiddle(OUT, x -> x.answer(5, true), x -> x.answer(5, false), x -> x.answer(-1, false));
            inFull(OUT, x -> x.answer(20, true), x -> x.answer(MOST, false));
        });
        line(52, "Throws `NoSuchElementException` if they do not", () -> {
            inEmpty(NONE, x -> x.breaksAt());
            inFull(NONE, x -> x.breaksAt());
        });
        line(53, "Throws `NoSuchElementException` if queue and model do not break", () -> {
            inEmpty(NONE, x -> x.makeSmall());
            inFull(NONE, x -> x.makeSmall());
        });
        line(54, "Throws `IndexOutOfBoundsException` if there is no such command", () -> {
            inEmpty(OUT, x -> x.commandAt(0, true), x -> x.commandAt(-1, false));
            inMiddle(OUT, x -> x.commandAt(5, true), x -> x.commandAt(5, false), x -> x.commandAt(-1, true));
            inFull(OUT, x -> x.commandAt(20, true), x -> x.commandAt(LEAST, false));
        });
    }

    private static void sides() {
        line(55, "Throws `IndexOutOfBoundsException` if there is no such row", () -> {
            On[] calls = {x -> x.beside(2, 0, 0), x -> x.beside(-1, 0, 0), x -> x.beside(2, 2, 10),
                x -> x.beside(MOST, 1, 0), x -> x.beside(LEAST, -1, -10)};
            inEmpty(OUT, calls);
            inMiddle(OUT, calls);
            inFull(OUT, calls);
        });
        line(55, OUT_OF_RANGE, () -> {
            On[] calls = {x -> x.beside(0, 2, 0), x -> x.beside(0, -1, 0), x -> x.beside(1, 1, 10),
                x -> x.beside(1, 1, -10), x -> x.beside(0, 1, MOST), x -> x.beside(0, LEAST, 0)};
            inEmpty(IAE, calls);
            inMiddle(IAE, calls);
            inFull(IAE, calls);
        });
        line(55, "Throws `IllegalStateException` if it has 4", () -> inFull(ISE, x -> x.beside(0, 0, 10),
                x -> x.beside(1, 0, 0), x -> x.beside(0, 1, 9), x -> x.beside(1, 1, -9)));
        line(57, "Throws `IndexOutOfBoundsException` if there is no such row, or command of it", () -> {
            inEmpty(OUT, x -> x.schedule(0, 0, 0), x -> x.schedule(0, 2, 0), x -> x.schedule(0, -1, 0));
            inMiddle(OUT, x -> x.schedule(0, 2, 0), x -> x.schedule(0, -1, 0), x -> x.schedule(0, 0, 2),
                    x -> x.schedule(0, 1, 1), x -> x.schedule(0, 0, -1), x -> x.schedule(-1, 1, MOST));
            inFull(OUT, x -> x.schedule(0, 0, 4), x -> x.schedule(0, 1, 4));
        });
        line(59, "Throws `UnsupportedOperationException` if there are more than 10 steps", () -> {
            inFull(UNSUPPORTED, x -> x.disorders());
            refused(UNSUPPORTED, () -> ofSteps(11), x -> x.disorders());
            due(0, () -> ofSteps(1).disorders());
            due(0, () -> ofSteps(10).disorders());
            due(UNSUPPORTED, () -> ofSteps(12).disorders());
            due(0, () -> empty().disorders());
        });
    }

    /** Rows of so many steps that add nothing: the first one of whole commands of two, then tells. */
    private static Shrinkery ofSteps(int steps) {
        Shrinkery x = new Shrinkery();
        for (int i = 0; i < steps / 2; i++) {
            x.beside(i % 2, 1, 0);
        }
        if (steps % 2 == 1) {
            x.beside(1, 0, 0);
        }
        return x;
    }

    private static void grammars() {
        line(60, "Throws `IllegalArgumentException` if there is no such nonterminal or symbol, one is behind none, or "
                + "it is just one nonterminal whose number is not greater", () -> {
            On[] calls = {x -> x.produce(-1, 10, -1, -1, -1), x -> x.produce(6, 10, -1, -1, -1),
                x -> x.produce(0, -1, -1, -1, -1), x -> x.produce(0, 6, -1, -1, -1), x -> x.produce(0, 9, 10, -1, -1),
                x -> x.produce(0, 100, 10, -1, -1), x -> x.produce(0, 10, 6, -1, -1),
                x -> x.produce(0, 10, 100, -1, -1), x -> x.produce(0, 10, -2, -1, -1),
                x -> x.produce(0, 10, 10, 9, -1), x -> x.produce(0, 10, 10, -2, -1), x -> x.produce(0, 10, 10, 10, 9),
                x -> x.produce(0, 10, 10, 10, 100), x -> x.produce(0, 10, 10, 10, -2),
                x -> x.produce(0, -1, 10, -1, -1), x -> x.produce(0, 10, -1, 10, -1),
                x -> x.produce(0, 10, -1, -1, 10), x -> x.produce(0, 10, 10, -1, 10),
                x -> x.produce(0, 10, -1, 10, 10), x -> x.produce(0, 0, -1, -1, -1),
                x -> x.produce(3, 2, -1, -1, -1), x -> x.produce(5, 5, -1, -1, -1),
                x -> x.produce(LEAST, 10, -1, -1, -1), x -> x.produce(0, MOST, -1, -1, -1)};
            inEmpty(IAE, calls);
            inMiddle(IAE, calls);
            inFull(IAE, calls);
        });
        line(60, "Throws `IllegalStateException` if it has 4", () -> inFull(ISE, x -> x.produce(0, 10, -1, -1, -1),
                x -> x.produce(0, 5, -1, -1, -1), x -> x.produce(0, 0, 10, 99, 0)));
        line(61, OUT_OF_RANGE, () -> {
            On[] calls = {x -> x.words(-1, 1), x -> x.words(6, 1), x -> x.words(0, 0), x -> x.words(0, 13),
                x -> x.words(LEAST, MOST), x -> x.words(0, LEAST)};
            inEmpty(IAE, calls);
            inMiddle(IAE, calls);
            inFull(IAE, calls);
        });
        line(62, OUT_OF_RANGE, () -> {
            On[] calls = {x -> x.letterAt(-1, 1, 0, 0), x -> x.letterAt(6, 1, 0, 0), x -> x.letterAt(0, 0, 0, 0),
                x -> x.letterAt(0, 13, 0, 0), x -> x.letterAt(0, 1, 0, 1), x -> x.letterAt(0, 1, 0, -1),
                x -> x.letterAt(0, 3, 0, 3), x -> x.letterAt(0, 3, -1, 3), x -> x.letterAt(0, 12, 0, MOST),
                x -> x.letterAt(0, 12, MOST, 12), x -> x.letterAt(6, 1, -1, 0)};
            inEmpty(IAE, calls);
            inMiddle(IAE, calls);
            inFull(IAE, calls);
        });
        line(62, "Throws `NoSuchElementException` if there is no such word", () -> {
            inEmpty(NONE, x -> x.letterAt(0, 1, 0, 0), x -> x.letterAt(5, 12, 0, 11));
            inMiddle(NONE, x -> x.letterAt(0, 1, 1, 0), x -> x.letterAt(0, 1, -1, 0), x -> x.letterAt(0, 2, 0, 0),
                    x -> x.letterAt(1, 1, 2, 0), x -> x.letterAt(0, 5, 2, 4), x -> x.letterAt(0, 1, MOST, 0),
                    x -> x.letterAt(0, 1, LEAST, 0));
            inFull(NONE, x -> x.letterAt(0, 1, 4, 0), x -> x.letterAt(0, 1, -1, 0));
        });
    }
}
