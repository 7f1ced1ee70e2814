import java.io.IOException;

/** The range of each argument of each promise, at both ends and beyond them; and what is answered at first. */
public final class RangesTest extends Lines {
    public static void main(String[] args) throws IOException {
        readLines("- `", "Returns how many, 0 without", "Returns the number of draws, 0 without",
                "Returns how many commands there were", "Returns the number of its fault", "Returns the level",
                "Returns 10 times", "Returns true if it does", "Returns the kind or the number",
                "Returns how many there were.", "Returns their number", "Returns the number divided",
                "`int disorders()", "`boolean isSound()");
        generators();
        inputs();
        allInputs();
        programs();
        properties();
        runs();
        shares();
        failures();
        searches();
        queues();
        sides();
        grammars();
        tellUnquoted();
        end("the arguments of 65 promises");
    }

    private interface OfNumber {
        Object answer(int number);
    }

    /** From the least number to the greatest one it is answered, one less and one more are refused, and more of these. */
    private static void within(int least, int greatest, Class<?> refused, OfNumber call) {
        answered(call, least, greatest, least + (greatest - least) / 2);
        for (int number : new int[] {least - 1, greatest + 1, LEAST, MOST}) {
            due(refused, () -> call.answer(number));
        }
    }

    private static void answered(OfNumber call, int... numbers) {
        for (int number : numbers) {
            Object answer = answerOf(() -> call.answer(number));
            due(false, () -> answer instanceof Class);
        }
    }

    /** Whatever the number is, it is answered the same. */
    private static void whatever(OfNumber call) {
        Object due = answerOf(() -> call.answer(0));
        answered(call, 0);
        for (int number : new int[] {1, -1, 15, 16, 255, 256, LEAST, MOST}) {
            due(due, () -> call.answer(number));
        }
    }

    private static void generators() {
        line(2, "- `least`: the least one, 0 to 255", () -> within(0, 255, IAE, n -> empty().number(n, 255)));
        line(2, "- `greatest`: the greatest one, not less, up to 255", () -> {
            within(0, 255, IAE, n -> empty().number(0, n));
            within(7, 255, IAE, n -> empty().number(7, n));
            within(255, 255, IAE, n -> empty().number(255, n));
        });
        line(3, "- `first`: a generator", () -> within(0, 8, OUT, n -> middle().choice(n, 0, 1)));
        line(3, "- `second`: another one, or the same", () -> {
            within(0, 8, OUT, n -> middle().choice(0, n, 1));
            due(9, () -> middle().choice(8, 8, 1));
        });
        line(3, "- `weight`: the weight, 1 to 9", () -> within(1, 9, IAE, n -> middle().choice(0, 1, n)));
        line(4, "- `of`: its part", () -> within(0, 8, OUT, n -> middle().list(n, 1)));
        line(4, "- `most`: the most, 0 to 8", () -> within(0, 8, IAE, n -> middle().list(0, n)));
        line(5, "- `first`: the first one", () -> within(0, 8, OUT, n -> middle().pair(n, 0)));
        line(5, "- `second`: the second one", () -> within(0, 8, OUT, n -> middle().pair(0, n)));
        line(6, "- `of`: its part", () -> within(0, 8, OUT, n -> middle().filter(n, 2, 0)));
        line(6, "- `modulus`: m, 2 to 9", () -> within(2, 9, IAE, n -> middle().filter(0, n, 0)));
        line(6, "- `rest`: the rest, 0 to m - 1", () -> {
            within(0, 1, IAE, n -> middle().filter(0, 2, n));
            within(0, 8, IAE, n -> middle().filter(0, 9, n));
        });
        line(7, "- `first`: the first one", () -> within(0, 8, OUT, n -> middle().depends(n, 0)));
        line(7, "- `second`: the second one", () -> within(0, 8, OUT, n -> middle().depends(0, n)));
        line(8, "- `of`: its part", () -> within(0, 8, OUT, n -> middle().tree(n, 1)));
        line(8, "- `depth`: the depth, 0 to 4", () -> within(0, 4, IAE, n -> middle().tree(0, n)));
        line(9, "- `nonterminal`: the nonterminal, 0 to 5", () -> within(0, 5, IAE, n -> middle().word(n, 1)));
        line(9, "- `length`: the length, 1 to 12", () -> within(1, 12, IAE, n -> middle().word(0, n)));
        line(10, "- `generator`: the generator", () -> within(0, 8, OUT, n -> middle().kindOf(n)));
    }

    private static void inputs() {
        line(11, "- `generator`: the generator", () -> within(0, 7, OUT, n -> drawn(n)));
        line(11, "- `seed`: the seed", () -> answered(n -> middle().draw(0, n), 0, 1, -1, LEAST, MOST));
        line(12, "- `draw`: the draw, 0 to 255", () -> within(0, 255, IAE, n -> middle().type(n)));
        line(13, "Returns how many there were.", () -> {
            due(0, () -> empty().erase());
            due(5, () -> middle().erase());
            due(60, () -> full().erase());
            Shrinkery x = full();
            x.erase();
            due(0, x::erase);
        });
        line(14, "- `generator`: the generator", () -> within(0, 7, OUT, n -> replayed(n)));
        line(15, "- `index`: the index, from 0", () -> {
            within(0, 1, OUT, n -> middle().value(n));
            due(OUT, () -> empty().value(0));
            due(OUT, () -> full().value(0));
        });
        line(16, "Returns the number of draws, 0 without an input.", () -> {
            due(0, () -> empty().draws());
            due(0, () -> full().draws());
            due(3, () -> middle().draws());
            due(1, () -> drawnOnly().draws());
            due(9, () -> drawnOnly().faultOf(0));
            due(true, () -> drawnOnly().holds(0));
        });
        line(17, "- `index`: the index, from 0", () -> {
            within(0, 2, OUT, n -> middle().drawAt(n));
            due(OUT, () -> empty().drawAt(0));
        });
    }

    /** The generator 8 has no words: in its place there is one behind it, which is no part of the house. */
    private static Object drawn(int generator) {
        return middle().draw(generator == 8 ? 9 : generator, 4);
    }

    private static Object replayed(int generator) {
        return middle().replay(generator == 8 ? 9 : generator);
    }

    private static void allInputs() {
        line(18, "- `generator`: the generator", () -> within(0, 15, OUT, n -> full().inputs(n)));
        line(19, "- `generator`: the generator", () -> within(0, 15, OUT, n -> full().inputLength(n, 0)));
        line(19, "- `number`: the number", () -> {
            within(0, 15, NONE, n -> full().inputLength(15, n));
            within(0, 0, NONE, n -> full().inputLength(0, n));
            within(0, 999999999, NONE, n -> middle().inputLength(1, n));
        });
        line(20, "- `generator`: the generator", () -> within(0, 15, OUT, n -> full().inputAt(n, 0, 0)));
        line(20, "- `number`: the number", () -> {
            within(0, 15, NONE, n -> full().inputAt(15, n, 0));
            within(1, 999999999, NONE, n -> middle().inputAt(1, n, 0));
        });
        line(20, "- `index`: the index, from 0", () -> {
            within(0, 0, NONE, n -> full().inputAt(15, 7, n));
            within(0, 1, NONE, n -> middle().inputAt(3, 7, n));
            within(0, 3, NONE, n -> middle().inputAt(1, 999999999, n));
        });
    }

    private static void programs() {
        line(22, "- `program`: the program", () -> within(0, 2, OUT, n -> middle().instruct(n, 'r', 0, 0)));
        line(22, "- `kind`: the kind, r + * % < = e j o or x", () -> {
            for (char kind = 0; kind < 300; kind++) {
                char one = kind;
                due("r+*%<=ejox".indexOf(kind) < 0 ? IAE : 3, () -> middle().instruct(2, one, 0, 0));
            }
        });
        line(22, "- `k`: k, 0 to 255; whatever it is for r, e, j and o", () -> {
            for (char kind : "+*%<=x".toCharArray()) {
                within(0, 255, IAE, n -> middle().instruct(2, kind, n, 0));
            }
            for (char kind : "rejo".toCharArray()) {
                whatever(n -> middle().instruct(2, kind, n, 0));
            }
        });
        line(22, "- `target`: t, 0 to 15, for <, =, e and j; whatever it is for others", () -> {
            for (char kind : "<=ej".toCharArray()) {
                within(0, 15, IAE, n -> middle().instruct(2, kind, 0, n));
            }
            for (char kind : "r+*%ox".toCharArray()) {
                whatever(n -> middle().instruct(2, kind, 0, n));
            }
        });
        line(23, "- `program`: the program", () -> within(0, 2, OUT, n -> middle().faultOf(n)));
        line(23, "Returns the number of its fault, -1 without one.", () -> {
            due(2, () -> middle().faultOf(0));
            due(-1, () -> middle().faultOf(1));
        });
        line(24, "- `program`: the program", () -> within(0, 2, OUT, n -> middle().output(n)));
        line(25, "- `program`: the program", () -> {
            Shrinkery x = middle();
            code(x, "x1");
            within(3, 3, OUT, n -> x.classOf(n == 2 ? -1 : n));
            due(2 * 4096 + 256, () -> x.classOf(0));
        });
        line(26, "- `program`: the program", () -> within(0, 2, OUT, n -> middle().edges(n)));
        line(27, "- `program`: the program", () -> within(0, 2, OUT, n -> middle().level(n, 0, 0)));
        line(27, "- `from`: the instruction from which it leads",
                () -> within(0, 15, IAE, n -> middle().level(0, n, 0)));
        line(27, "- `to`: the one to which it leads, 16 for the end", () -> {
            within(0, 16, IAE, n -> middle().level(0, 0, n));
            due(1, () -> middle().level(2, 1, 16));
        });
        line(27, "Returns the level, 0 without it.", () -> {
            due(1, () -> middle().level(0, 0, 1));
            due(0, () -> middle().level(0, 1, 2));
            due(1, () -> middle().level(0, 1, 3));
            due(0, () -> middle().level(0, 3, 16));
            due(0, () -> middle().level(0, 15, 16));
        });
    }

    private static void properties() {
        line(28, "- `kind`: s, o, u, p or d", () -> {
            for (char kind = 0; kind < 300; kind++) {
                char one = kind;
                due("soupd".indexOf(kind) < 0 ? IAE : 4, () -> middle().property(one, 0, 0));
            }
        });
        line(28, "- `k`: the sum, 0 to 10000, for s; the program for p and d; of no meaning for o and u", () -> {
            within(0, 10000, IAE, n -> middle().property('s', n, 0));
            within(0, 2, IAE, n -> middle().property('p', n, 0));
            within(0, 2, IAE, n -> middle().property('d', n, 0));
            whatever(n -> middle().property('o', n, 0));
            whatever(n -> middle().property('u', n, 0));
            due(IAE, () -> empty().property('p', 0, 0));
            due(IAE, () -> empty().property('d', 0, 0));
        });
        line(28, "- `other`: the second program for d, of no meaning for others", () -> {
            within(0, 2, IAE, n -> middle().property('d', 0, n));
            for (char kind : "soup".toCharArray()) {
                whatever(n -> middle().property(kind, 0, n));
            }
        });
        line(29, "- `property`: the property", () -> within(0, 3, OUT, n -> middle().require(n, 1, 0)));
        line(29, "- `modulus`: m, 1 to 9", () -> within(1, 9, IAE, n -> middle().require(0, n, 0)));
        line(29, "- `rest`: the rest, 0 to m - 1", () -> {
            within(0, 0, IAE, n -> middle().require(0, 1, n));
            within(0, 1, IAE, n -> middle().require(0, 2, n));
            within(0, 8, IAE, n -> middle().require(0, 9, n));
        });
        line(29, "Returns 10 times m before, plus the rest.", () -> {
            due(31, () -> middle().require(2, 9, 8));
            due(10, () -> middle().require(0, 9, 8));
            Shrinkery x = middle();
            x.require(0, 9, 8);
            due(98, () -> x.require(0, 2, 1));
            due(21, () -> x.require(0, 2, 0));
            due(20, () -> x.require(0, 1, 0));
        });
        line(30, "- `property`: the property", () -> within(0, 3, OUT, n -> middle().holds(n)));
        line(30, "Returns true if it does, whatever its precondition.", () -> {
            Shrinkery x = middle();
            for (int rest = 0; rest < 9; rest++) {
                x.require(0, 9, rest);
                x.require(3, 9, rest);
                due(false, () -> x.holds(0));
                due(true, () -> x.holds(3));
            }
        });
    }

    private static void runs() {
        line(31, "- `property`: the property", () -> within(0, 3, OUT, n -> middle().run(n, 0, 1, 1, 0)));
        line(31, "- `generator`: the generator", () -> within(0, 8, OUT, n -> middle().run(0, n, 1, 1, 0)));
        line(31, "- `seed`: the first seed", () -> answered(n -> middle().run(0, 0, n, 1, 0), 0, -1, LEAST, MOST));
        line(31, "- `many`: how many good inputs, 1 to 100", () -> {
            within(1, 100, IAE, n -> middle().run(3, 0, 1, n, 0));
            Shrinkery x = middle();
            x.run(3, 0, 1, 100, 0);
            due(100, x::tested);
        });
        line(31, "- `discards`: how many may be discarded, 0 to 100", () -> {
            within(0, 100, IAE, n -> middle().run(3, 0, 1, 1, n));
            Shrinkery x = middle();
            x.run(3, 8, 1, 1, 100);
            due(101, x::discarded);
        });
        line(32, "Returns how many, 0 without a run.", () -> {
            due(0, () -> empty().tested());
            due(0, () -> full().tested());
            due(5, () -> middle().tested());
        });
        line(33, "Returns how many, 0 without a run.", () -> {
            due(0, () -> empty().discarded());
            due(0, () -> full().discarded());
            Shrinkery x = middle();
            x.run(0, 8, 1, 1, 3);
            due(4, x::discarded);
        });
        line(34, "- `which`: 0 for no values, 1 for one, 2 for two or three, 3 for more", () -> {
            within(0, 3, IAE, n -> middle().label(n));
            within(0, 3, IAE, n -> empty().label(n));
            for (int length = 0; length <= 5; length++) {
                int of = length;
                due(1, () -> ofLength(of).label(of < 2 ? of : of < 4 ? 2 : 3));
                due(0, () -> ofLength(of).label(of < 2 ? 3 - of : of < 4 ? 3 : 2));
            }
        });
    }

    /** A house with a run of one input of so many values. */
    private static Shrinkery ofLength(int length) {
        Shrinkery x = new Shrinkery();
        x.number(0, 0);
        int all = x.list(0, 0);
        for (int i = 0; i < length; i++) {
            all = x.pair(all, 0);
        }
        x.property('s', 0, 0);
        x.run(0, all, 1, 1, 0);
        return x;
    }

    /** A house with an input that is drawn, and none that is replayed. */
    private static Shrinkery drawnOnly() {
        Shrinkery x = new Shrinkery();
        x.number(0, 255);
        x.draw(0, 1);
        code(x, "r x9");
        x.property('s', 10000, 0);
        return x;
    }

    private static void shares() {
        line(35, "Returns the number divided by that of all, both converted to double.", () -> {
            due(1.0, () -> ofLength(3).unseen());
            // By 2 there are left 0, 1 and 1, or 1, 0 and 0: one of three comes once.
            Shrinkery x = new Shrinkery();
            x.number(0, 1);
            x.property('s', 1, 0);
            int seed = 1;
            while ((drawOf(seed, 1) + drawOf(seed + 1, 1) + drawOf(seed + 2, 1)) % 2 != drawOf(seed, 1) % 2
                    || drawOf(seed, 1) % 2 == drawOf(seed + 1, 1) % 2) {
                seed++;
            }
            x.run(0, 0, seed, 3, 0);
            due(1.0 / 3.0, x::unseen);
        });
        line(64, "Returns their number divided by that of all, both converted to float.", () -> {
            Shrinkery x = middle();
            due(0.5f, x::breakShare);
            x.run(3, 0, 1, 1, 0);
            due(1.0f / 3.0f, x::breakShare);
            x.run(0, 8, 1, 1, 0);
            due(0.25f, x::breakShare);
            x.run(1, 0, 1, 1, 0);
            x.run(1, 0, 1, 1, 0);
            due(0.5f, x::breakShare);
            x.run(3, 0, 1, 1, 0);
            due(3.0f / 7.0f, x::breakShare);
        });
        line(65, "`boolean isSound()`: Returns whether all is sound: the failure, if there is one, is not discarded as "
                + "it is replayed, unless a production came since; each least row of a class of the search has its "
                + "class, unless an instruction or a production came since; the first ten words of each nonterminal "
                + "and each length up to 4 have this length.", () -> {
            due(true, () -> empty().isSound());
            due(true, () -> middle().isSound());
            due(true, () -> full().isSound());
            // A production makes another word of the same draws: the failure is discarded, the class another one.
            Shrinkery x = sound();
            due(true, x::isSound);
            due(true, x::isReplayed);
            x.produce(0, 55, -1, -1, -1);
            due(false, x::isReplayed);
            due(true, x::isSound);
            Shrinkery y = sound();
            y.require(0, 2, 0);
            due(false, y::isReplayed);
            due(true, y::isSound);
            y.instruct(0, 'x', 3, 0);
            due(true, y::isSound);
            Shrinkery nothing = middle();
            code(nothing, "x0");
            nothing.search(3, 1, 7, 40);
            due(0, () -> nothing.foundClass(0));
            due(true, nothing::isSound);
        });
    }

    /**
     * A failure whose one word 52 is dropped, as another one would need more than 60 draws; and a class of the word
     * 52, for two draws of which the second one is odd.
     */
    private static Shrinkery sound() {
        Shrinkery x = new Shrinkery();
        x.number(9, 9);
        x.word(0, 1);
        for (int i = 0; i < 5; i++) {
            x.pair(i == 0 ? 0 : i + 1, i == 0 ? 0 : i + 1);
        }
        x.depends(1, 6);
        x.pair(0, 7);
        x.produce(0, 52, -1, -1, -1);
        x.property('s', 0, 0);
        int seed = 1;
        while (drawOf(seed, 2) % 2 == 0 || drawOf(seed, 3) % 2 == 0) {
            seed++;
        }
        x.run(0, 8, seed, 1, 0);
        code(x, "r =52:3 j:9 x2");
        x.search(0, 1, seed, 0);
        return x;
    }

    private static void failures() {
        line(36, "- `tries`: how many candidates at most, 1 to 400", () -> within(1, 400, IAE, n -> middle().shrink(n)));
        line(38, "- `index`: the index, from 0", () -> within(0, 1, OUT, n -> middle().failureDraw(n)));
        line(39, "- `index`: the index, from 0", () -> within(0, 1, OUT, n -> middle().failureValue(n)));
        line(63, "- `first`: the first program", () -> {
            within(0, 1, OUT, n -> middle().least(n == 2 ? 3 : n, 0));
            due(0, () -> middle().least(0, 0));
        });
        line(63, "- `second`: the second one", () -> {
            within(0, 0, OUT, n -> middle().least(1, n == 1 ? 3 : n));
            due(NONE, () -> middle().least(1, 1));
        });
    }

    private static void searches() {
        line(41, "- `program`: the program", () -> within(0, 2, OUT, n -> middle().search(n, 0, 1, 1)));
        line(41, "- `generator`: the generator", () -> within(0, 8, OUT, n -> middle().search(0, n, 1, 1)));
        line(41, "- `seed`: the seed", () -> answered(n -> middle().search(0, 0, n, 1), 0, -1, LEAST, MOST));
        line(41, "- `rounds`: how many rounds, 0 to 100", () -> {
            within(0, 100, IAE, n -> middle().search(0, 0, 1, n));
            Shrinkery x = middle();
            x.search(2, 0, 1, 0);
            due(120, () -> x.energy(0));
            x.search(2, 0, 1, 100);
            due(120 - 1000, () -> x.energy(0));
        });
        line(42, "Returns how many, 0 without a search.", () -> {
            due(0, () -> empty().corpus());
            due(0, () -> full().corpus());
            due(1, () -> searched().corpus());
        });
        line(43, "- `row`: the row", () -> within(0, 0, OUT, n -> searched().corpusDraw(n, 0)));
        line(43, "- `index`: the index, from 0", () -> within(0, 1, OUT, n -> searched().corpusDraw(0, n)));
        line(44, "- `row`: the row", () -> within(0, 0, OUT, n -> searched().energy(n)));
        line(45, "Returns how many, 0 without a search.", () -> {
            due(0, () -> empty().classes());
            due(0, () -> full().classes());
            due(1, () -> searched().classes());
        });
        line(46, "- `index`: the index, from 0", () -> within(0, 0, OUT, n -> searched().foundClass(n)));
        line(47, "- `index`: the index of the class", () -> within(0, 0, OUT, n -> searched().leastLength(n)));
        line(48, "Returns how many, 0 without a search.", () -> {
            due(0, () -> empty().covered());
            due(0, () -> full().covered());
            due(2, () -> searched().covered());
        });
    }

    /** A search whose corpus is one row of two draws, with one class. */
    private static Shrinkery searched() {
        Shrinkery x = middle();
        x.search(0, 3, 1, 0);
        return x;
    }

    private static void queues() {
        line(49, "- `room`: the room, 1 to 4", () -> within(1, 4, IAE, n -> middle().queue(n, 0)));
        line(49, "- `defect`: the defect, 0 to 3", () -> within(0, 3, IAE, n -> middle().queue(1, n)));
        line(49, "Returns how many commands there were; 1 and 0 at first.", () -> {
            due(5, () -> middle().queue(1, 0));
            due(20, () -> full().queue(1, 0));
            due(0, () -> empty().queue(4, 3));
            // At first there is room for one, and the size of a full queue is told as it is.
            Shrinkery x = empty();
            x.command(0, 1);
            x.command(0, 2);
            x.command(2, 0);
            x.command(1, 0);
            due(0, () -> x.answer(0, false));
            due(-1, () -> x.answer(1, false));
            due(1, () -> x.answer(2, false));
            due(1, () -> x.answer(3, false));
            due(NONE, x::breaksAt);
        });
        line(50, "- `kind`: the kind, 0 to 3", () -> within(0, 3, IAE, n -> middle().command(n, 0)));
        line(50, "- `number`: the value, 0 to 99, for 0; the number of an earlier command for 3; of no meaning for "
                + "others", () -> {
            within(0, 99, IAE, n -> middle().command(0, n));
            within(0, 4, IAE, n -> middle().command(3, n));
            within(0, 0, IAE, n -> one().command(3, n));
            due(IAE, () -> empty().command(3, 0));
            whatever(n -> middle().command(1, n));
            whatever(n -> middle().command(2, n));
        });
        line(51, "- `command`: the number of the command", () -> {
            within(0, 4, OUT, n -> middle().answer(n, true));
            within(0, 19, OUT, n -> full().answer(n, false));
            due(OUT, () -> empty().answer(0, true));
        });
        line(51, "- `ofModel`: true for that of the model", () -> {
            due(2, () -> middle().answer(2, true));
            due(0, () -> middle().answer(2, false));
        });
        line(54, "- `command`: the number of the command", () -> {
            within(0, 4, OUT, n -> middle().commandAt(n, true));
            within(0, 4, OUT, n -> middle().commandAt(n, false));
            due(OUT, () -> empty().commandAt(0, true));
        });
        line(54, "- `isKind`: true for its kind, false for its number", () -> {
            due(3, () -> middle().commandAt(3, true));
            due(2, () -> middle().commandAt(3, false));
            due(0, () -> middle().commandAt(1, true));
            due(6, () -> middle().commandAt(1, false));
        });
        line(54, "Returns the kind or the number, 0 where it is of no meaning.", () -> {
            for (int kind = 1; kind <= 2; kind++) {
                int of = kind;
                whatever(n -> {
                    Shrinkery x = middle();
                    return x.commandAt(x.command(of, n), false);
                });
                due(0, () -> {
                    Shrinkery x = middle();
                    return x.commandAt(x.command(of, 77), false);
                });
            }
        });
    }

    private static Shrinkery one() {
        Shrinkery x = empty();
        x.command(1, 0);
        return x;
    }

    private static void sides() {
        line(56, "Returns how many there were.", () -> {
            due(0, () -> empty().apart());
            due(3, () -> middle().apart());
            due(8, () -> full().apart());
            Shrinkery x = empty();
            x.beside(1, 0, 0);
            due(1, x::apart);
            due(0, x::apart);
        });
        line(59, "`int disorders() throws UnsupportedOperationException`: Returns how many schedules are not in order, "
                + "of all with as many bits as there are steps of both rows.", () -> {
            due(0, () -> empty().disorders());
            // Of 16 schedules of two adds those are in order that begin with one row's two steps, whatever the bits
            // behind them are, as that row is over then.
            due(8, () -> added(5, 7).disorders());
            due(8, () -> added(5, 5).disorders());
            // By adding 0 nothing is lost but what the other one wrote ahead of it.
            due(4, () -> added(0, 7).disorders());
            due(0, () -> added(0, 0).disorders());
            due(0, () -> {
                Shrinkery x = empty();
                x.beside(0, 1, 3);
                x.beside(1, 0, 0);
                return x.disorders();
            });
            Shrinkery x = middle();
            int many = 0;
            for (int bits = 0; bits < 32; bits++) {
                many += x.isInOrder(bits) ? 0 : 1;
            }
            int counted = many;
            due(counted, x::disorders);
            due(true, () -> counted > 0 && counted < 32);
        });
        line(55, "- `row`: the row, 0 or 1", () -> within(0, 1, OUT, n -> middle().beside(n, 0, 0)));
        line(55, "- `kind`: the kind, 0 or 1", () -> within(0, 1, IAE, n -> middle().beside(0, n, 0)));
        line(55, "- `k`: k, -9 to 9, of no meaning for 0", () -> {
            within(-9, 9, IAE, n -> middle().beside(0, 1, n));
            whatever(n -> middle().beside(0, 0, n));
            // What is told adds nothing, whatever k is.
            whatever(n -> {
                Shrinkery x = empty();
                x.beside(0, 0, n);
                x.beside(0, 0, 0);
                return x.schedule(0, 0, 1);
            });
        });
        line(57, "- `bits`: the schedule", () -> answered(n -> middle().schedule(n, 1, 0), 0, 1, -1, LEAST, MOST));
        line(57, "- `row`: the row, 0 or 1", () -> within(0, 1, OUT, n -> middle().schedule(0, n, 0)));
        line(57, "- `command`: the number of the command in its row", () -> {
            within(0, 1, OUT, n -> middle().schedule(0, 0, n));
            within(0, 0, OUT, n -> middle().schedule(0, 1, n));
            within(0, 3, OUT, n -> full().schedule(0, 1, n));
            due(OUT, () -> empty().schedule(0, 0, 0));
        });
        line(58, "- `bits`: the schedule", () -> {
            answered(n -> middle().isInOrder(n), 0, 1, -1, LEAST, MOST);
            due(true, () -> middle().isInOrder(LEAST));
            due(false, () -> middle().isInOrder(LEAST + 2));
        });
    }

    private static Shrinkery added(int one, int other) {
        Shrinkery x = empty();
        x.beside(0, 1, one);
        x.beside(1, 1, other);
        return x;
    }

    private static void grammars() {
        line(60, "- `nonterminal`: the nonterminal, 0 to 5",
                () -> within(0, 5, IAE, n -> empty().produce(n, 10, -1, -1, -1)));
        line(60, "- `first`: its first symbol, 0 to 5 or 10 to 99", () -> {
            within(10, 99, IAE, n -> empty().produce(0, n, 10, -1, -1));
            within(0, 5, IAE, n -> empty().produce(0, n, 10, -1, -1));
            within(1, 5, IAE, n -> empty().produce(0, n, -1, -1, -1));
        });
        line(60, "- `second`: the second one, or -1 for none, and none behind it", () -> {
            within(10, 99, IAE, n -> empty().produce(0, 10, n, 10, -1));
            within(0, 5, IAE, n -> empty().produce(0, 10, n, 10, -1));
            answered(n -> empty().produce(0, 10, n, -1, -1), -1, 0, 5, 10, 99);
            due(IAE, () -> empty().produce(0, 10, -2, -1, -1));
            due(IAE, () -> empty().produce(0, 10, -1, 10, -1));
            due(IAE, () -> empty().produce(0, 10, -1, -1, 10));
            due(IAE, () -> empty().produce(0, 10, -1, 10, 10));
        });
        line(60, "- `third`: the third one, or -1", () -> {
            within(10, 99, IAE, n -> empty().produce(0, 10, 10, n, 10));
            within(0, 5, IAE, n -> empty().produce(0, 10, 10, n, 10));
            answered(n -> empty().produce(0, 10, 10, n, -1), -1, 0, 5, 10, 99);
            due(IAE, () -> empty().produce(0, 10, 10, -2, -1));
            due(IAE, () -> empty().produce(0, 10, 10, -1, 10));
        });
        line(60, "- `fourth`: the fourth one, or -1", () -> {
            within(10, 99, IAE, n -> empty().produce(0, 10, 10, 10, n));
            within(-1, 5, IAE, n -> empty().produce(0, 10, 10, 10, n));
        });
        line(61, "- `nonterminal`: the nonterminal", () -> within(0, 5, IAE, n -> middle().words(n, 1)));
        line(61, "- `length`: the length, 1 to 12", () -> within(1, 12, IAE, n -> middle().words(0, n)));
        line(62, "- `nonterminal`: the nonterminal", () -> {
            within(0, 1, IAE, n -> middle().letterAt(n == 2 ? 6 : n, 1, 0, 0));
            due(NONE, () -> middle().letterAt(5, 1, 0, 0));
        });
        line(62, "- `length`: the length, 1 to 12", () -> {
            due(11, () -> middle().letterAt(0, 1, 0, 0));
            due(11, () -> middle().letterAt(0, 11, 0, 0));
            due(NONE, () -> middle().letterAt(0, 12, 0, 0));
            for (int length : new int[] {0, 13, LEAST, MOST}) {
                due(IAE, () -> middle().letterAt(0, length, 0, 0));
            }
        });
        line(62, "- `number`: the number of the word", () -> {
            within(0, 1, NONE, n -> middle().letterAt(0, 5, n, 0));
            within(0, 0, NONE, n -> middle().letterAt(0, 3, n, 0));
            within(0, 1, NONE, n -> middle().letterAt(1, 1, n, 0));
        });
        line(62, "- `place`: the place, 0 to the length less 1", () -> {
            within(0, 0, IAE, n -> middle().letterAt(0, 1, 0, n));
            within(0, 2, IAE, n -> middle().letterAt(0, 3, 0, n));
            within(0, 10, IAE, n -> middle().letterAt(0, 11, 0, n));
        });
    }
}
