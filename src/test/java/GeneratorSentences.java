/** The sentences on draws, on generators, and on all inputs. */
final class GeneratorSentences extends Sentences {
    static void all() {
        sentence("A row of draws has at most 60.", GeneratorSentences::rowsOfDraws);
        sentence("A seed gives draws: z, at first the seed, becomes itself times 1103515245 plus 12345, as an int that "
                + "wraps; the draw is the lowest 8 bits of what z has from its bit 16 on.",
                GeneratorSentences::drawsOfSeeds);
        sentence("At most 16 generators are numbered from 0; their parts have lower numbers.",
                GeneratorSentences::atMostSixteen);
        sentence("Each makes a row of values, from 0 to 255, by draws, one behind the other:",
                GeneratorSentences::valuesByDraws);
        sentence("'n' of a least and a greatest number: of one draw d, the value least + d modulo (greatest less least "
                + "plus 1);", GeneratorSentences::ofNumbers);
        sentence("'c' a choice: of one draw d, the first one if d modulo (weight plus 1) is less than the weight, "
                + "otherwise the second one;", GeneratorSentences::choices);
        sentence("'l' a list: of one draw d, its part d modulo (most plus 1) times;", GeneratorSentences::lists);
        sentence("'p' a pair: the first one, then the second one;", GeneratorSentences::pairs);
        sentence("'f' a filter: its part, if the sum of its values modulo m is the rest;",
                GeneratorSentences::filters);
        sentence("otherwise these are dropped, and it is made again;", GeneratorSentences::filteredAgain);
        sentence("behind the third time that does not fit, the input is discarded;",
                GeneratorSentences::filteredThrice);
        sentence("'d' depends: the first one, whose values are dropped, then the second one as often as their sum "
                + "modulo 4 tells;", GeneratorSentences::dependence);
        sentence("'t' a tree: at the depth 0 its part; otherwise of one draw d, if d modulo 3 is 0 its part, else two "
                + "trees of a depth less by 1;", GeneratorSentences::trees);
        sentence("'g' a word: of draws d and e, the word with the number (256 d plus e) modulo their number, of a "
                + "nonterminal and a length, its values being its letters; discarded if there is none.",
                GeneratorSentences::words);
        sentence("An input that needs more than 60 draws, or has more than 40 values in the end, is discarded.",
                GeneratorSentences::tooLarge);
        sentence("An input is replayed from a row of draws: behind its last one, all draws are 0; its row is that of "
                + "the draws that it used.", GeneratorSentences::replays);
        sentence("Inputs of a generator without filters, dependence and words are counted by the choices of its draws, "
                + "as far as they differ: 'n' by its numbers, 'c' by both together, 'l' over its lengths, 'p' as a "
                + "product, 't' by its part, and, at a greater depth, two trees.", GeneratorSentences::countedInputs);
        sentence("They are numbered from 0 likewise: smaller values, the first one of a choice, shorter lists, the "
                + "part of a tree, come first; of rows, the first ones weigh most.",
                GeneratorSentences::numberedInputs);
        sentence("Counts are at most 1000000000.", GeneratorSentences::mostCounted);
    }

    private static void rowsOfDraws() {
        Shrinkery x = numbers();
        for (int i = 1; i <= 60; i++) {
            int count = i;
            due(count, () -> x.type(count - 1));
        }
        due(ISE, () -> x.type(0));
        // 40 draws without a value, as their sum is a multiple of 4, and 20 more: the last one is the 60th.
        int sixty = x.pair(x.depends(6, 0), x.pair(4, 2));
        due(20, () -> x.replay(sixty));
        due(60, x::draws);
        due(59, () -> x.drawAt(59));
        due(59, () -> x.value(19));
        due(OUT, () -> x.drawAt(60));
        int more = x.pair(sixty, 0);
        due(NONE, () -> x.replay(more));
        due(60, x::draws);
        due(60, x::erase);
    }

    private static void drawsOfSeeds() {
        Shrinkery x = numbers();
        for (int seed : new int[] {0, 1, 7, -1, 65535, 123456789, MOST, LEAST}) {
            x.draw(6, seed);
            long z = seed;
            for (int i = 0; i < 40; i++) {
                int at = i;
                z = Math.floorMod(z * 1103515245L + 12345L, 1L << 32);
                int draw = (int) (z / 65536 % 256);
                due(draw, () -> x.drawAt(at));
                due(draw, () -> x.value(at));
            }
        }
        // By hand: 7 times 1103515245 plus 12345 is 7724619060, less 2 to the power of 32 it is 3429651764, and
        // that divided by 65536 is 52332, of which 108 are left by 256.
        x.draw(0, 7);
        due(108, () -> x.drawAt(0));
    }

    private static void atMostSixteen() {
        Shrinkery x = new Shrinkery();
        due(OUT, () -> x.list(0, 1));
        for (int i = 0; i < 15; i++) {
            int number = i;
            due(number, () -> x.number(0, number));
        }
        due(15, () -> x.pair(14, 0));
        due(ISE, () -> x.number(0, 1));
        due('p', () -> x.kindOf(15));
        due(OUT, () -> x.kindOf(16));
        Shrinkery parts = new Shrinkery();
        parts.number(0, 0);
        parts.number(0, 0);
        due(OUT, () -> parts.choice(2, 0, 1));
        due(OUT, () -> parts.choice(0, 2, 1));
        due(OUT, () -> parts.list(2, 1));
        due(OUT, () -> parts.pair(2, 0));
        due(OUT, () -> parts.pair(0, 2));
        due(OUT, () -> parts.filter(2, 2, 0));
        due(OUT, () -> parts.depends(2, 0));
        due(OUT, () -> parts.depends(0, 2));
        due(OUT, () -> parts.tree(2, 1));
        due(2, () -> parts.pair(1, 1));
        due(3, () -> parts.pair(2, 2));
    }

    private static void valuesByDraws() {
        Shrinkery x = numbers();
        due("0,255,255,0", () -> made(x, 2, 0, 255, 255, 0));
        due("255", () -> made(x, 0, 255));
        due("0", () -> made(x, 0, 0));
        int first = x.pair(x.list(0, 8), x.list(0, 8));
        due("1,2,3,4", () -> made(x, first, 1, 1, 3, 2, 3, 4));
        due("0,1,2,3,0,1,2,3", () -> made(x, x.pair(2, 2), 0, 1, 2, 3, 0, 1, 2, 3));
    }

    private static void ofNumbers() {
        Shrinkery x = new Shrinkery();
        x.number(10, 14);
        x.number(7, 7);
        x.number(0, 255);
        x.number(0, 254);
        x.number(255, 255);
        x.number(254, 255);
        int[][] draws = {{0, 0, 10}, {0, 4, 14}, {0, 5, 10}, {0, 254, 14}, {0, 255, 10}, {1, 0, 7}, {1, 255, 7},
            {2, 0, 0}, {2, 255, 255}, {3, 254, 254}, {3, 255, 0}, {4, 0, 255}, {4, 255, 255}, {5, 0, 254}, {5, 255, 255}};
        for (int[] draw : draws) {
            due("" + draw[2], () -> made(x, draw[0], draw[1]));
            due(1, x::draws);
        }
    }

    private static void choices() {
        Shrinkery x = new Shrinkery();
        x.number(1, 1);
        x.number(2, 2);
        x.choice(0, 1, 1);
        x.choice(0, 1, 2);
        x.choice(0, 1, 9);
        int[][] draws = {{2, 0, 1}, {2, 1, 2}, {2, 2, 1}, {2, 254, 1}, {2, 255, 2}, {3, 0, 1}, {3, 1, 1}, {3, 2, 2},
            {3, 3, 1}, {3, 254, 2}, {3, 255, 1}, {4, 0, 1}, {4, 8, 1}, {4, 9, 2}, {4, 10, 1}, {4, 249, 2}, {4, 255, 1}};
        for (int[] draw : draws) {
            due("" + draw[2], () -> made(x, draw[0], draw[1]));
            due(2, x::draws);
        }
    }

    private static void lists() {
        Shrinkery x = new Shrinkery();
        x.number(5, 5);
        x.list(0, 0);
        x.list(0, 1);
        x.list(0, 3);
        x.list(0, 8);
        int[][] draws = {{1, 0, 0}, {1, 1, 0}, {1, 255, 0}, {2, 0, 0}, {2, 1, 1}, {2, 2, 0}, {3, 3, 3}, {3, 4, 0},
            {3, 255, 3}, {4, 0, 0}, {4, 8, 8}, {4, 9, 0}, {4, 17, 8}, {4, 255, 3}};
        for (int[] draw : draws) {
            due(draw[2], () -> made(x, draw[0], draw[1]).replace(",", "").length());
            due(1 + draw[2], x::draws);
        }
    }

    private static void pairs() {
        Shrinkery x = numbers();
        due("3,4", () -> made(x, 1, 3, 4));
        int list = x.list(0, 8);
        int lists = x.pair(list, list);
        due("", () -> made(x, lists, 0, 0));
        due(2, x::draws);
        due("7", () -> made(x, lists, 0, 1, 7));
        due("7", () -> made(x, lists, 1, 7, 0));
        due("9,1,2", () -> made(x, x.pair(0, list), 9, 2, 1, 2));
        due("1,2,9", () -> made(x, x.pair(list, 0), 2, 1, 2, 9));
    }

    private static void filters() {
        Shrinkery x = new Shrinkery();
        x.number(0, 255);
        x.filter(0, 9, 8);
        x.filter(0, 2, 0);
        x.list(0, 8);
        x.filter(3, 9, 0);
        x.pair(0, 2);
        for (int fitting : new int[] {8, 17, 251}) {
            due("" + fitting, () -> made(x, 1, fitting));
            due(1, x::draws);
        }
        // One less and one more do not fit: what is made then has the draws 0 and 8 behind them.
        due("8", () -> made(x, 1, 7, 8));
        due("8", () -> made(x, 1, 9, 8));
        due("0", () -> made(x, 2, 0));
        due("0", () -> made(x, 2, 1));
        // The sum of no value is 0; that of several is above 255; a value ahead of the filter is none of its own.
        due("", () -> made(x, 4, 0));
        due(1, x::draws);
        due("255,255,255,255,255,255,255,33", () -> made(x, 4, 8, 255, 255, 255, 255, 255, 255, 255, 33));
        due("1,4", () -> made(x, 5, 1, 4));
        due(2, x::draws);
    }

    private static void filteredAgain() {
        Shrinkery x = new Shrinkery();
        x.number(0, 255);
        x.pair(0, 0);
        x.filter(1, 9, 3);
        x.pair(0, 2);
        x.list(0, 8);
        x.filter(4, 9, 3);
        due("7,1,2", () -> made(x, 3, 7, 5, 6, 1, 2));
        due("7,5,6,1,2", () -> {
            made(x, 3, 7, 5, 6, 1, 2);
            return used(x);
        });
        due("7,1,2", () -> made(x, 3, 7, 1, 2, 5, 6));
        due(3, x::draws);
        // The second time is made anew, its length too.
        due("3", () -> made(x, 5, 3, 1, 1, 2, 1, 3));
        due(6, x::draws);
    }

    private static void filteredThrice() {
        Shrinkery x = new Shrinkery();
        x.number(0, 255);
        x.filter(0, 9, 8);
        due("8", () -> made(x, 1, 1, 2, 8));
        due(3, x::draws);
        due(NONE, () -> made(x, 1, 1, 2, 3));
        due(NONE, () -> made(x, 1, 1, 2, 3, 8));
        due("1,2,8", () -> used(x));
        // Each filter of a list, and one in another one, has three times of its own.
        x.list(1, 2);
        x.filter(1, 2, 1);
        due("8,8", () -> made(x, 2, 2, 1, 2, 8, 3, 4, 8));
        due(NONE, () -> made(x, 2, 2, 1, 2, 8, 3, 4, 5));
        due("17", () -> made(x, 3, 0, 0, 8, 0, 26, 1, 1, 17));
        due(NONE, () -> made(x, 3, 8, 26, 44, 17));
        due(NONE, () -> made(x, 3, 8, 1, 1, 1, 17));
    }

    private static void dependence() {
        Shrinkery x = new Shrinkery();
        x.number(0, 255);
        x.list(0, 8);
        x.depends(0, 0);
        x.depends(1, 0);
        x.pair(0, 2);
        int[][] draws = {{0, 0}, {1, 1}, {3, 3}, {4, 0}, {7, 3}, {252, 0}, {255, 3}};
        for (int[] draw : draws) {
            due(draw[1], () -> made(x, 2, draw[0]).replace(",", "").length());
            due(1 + draw[1], x::draws);
        }
        due("9,8,7", () -> made(x, 2, 7, 9, 8, 7, 6));
        // No value has the sum 0, several have that of all; values ahead of it stay, and do not count.
        due("", () -> made(x, 3, 0, 5));
        due(1, x::draws);
        due("9,8", () -> made(x, 3, 2, 255, 255, 9, 8, 7));
        due("5,9", () -> made(x, 4, 5, 1, 9));
        due("5", () -> made(x, 4, 5, 0, 9));
    }

    private static void trees() {
        Shrinkery x = new Shrinkery();
        x.number(0, 255);
        x.tree(0, 0);
        x.tree(0, 1);
        x.tree(0, 4);
        due("1", () -> made(x, 1, 1, 2));
        due(1, x::draws);
        due("9", () -> made(x, 2, 0, 9));
        due("9,8", () -> made(x, 2, 1, 9, 8));
        due("9,8", () -> made(x, 2, 2, 9, 8));
        due("9", () -> made(x, 2, 3, 9));
        due("9,8", () -> made(x, 2, 254, 9, 8));
        due("9", () -> made(x, 2, 255, 9));
        due(2, x::draws);
        // At the depth 4 there are 15 draws for two trees each, and 16 parts at the depth 0.
        due(16, () -> made(x, 3, ones(31)).replace(",", "").length());
        due(31, x::draws);
        due("3,4,5,6", () -> made(x, 3, 1, 1, 0, 3, 0, 4, 2, 0, 5, 0, 6));
        due("3,4,5", () -> made(x, 3, 1, 0, 3, 1, 0, 4, 0, 5));
    }

    private static void words() {
        Shrinkery x = new Shrinkery();
        x.word(0, 1);
        x.word(1, 5);
        due(NONE, () -> made(x, 0, 0, 0));
        x.produce(0, 50, -1, -1, -1);
        x.produce(0, 51, -1, -1, -1);
        x.produce(0, 52, -1, -1, -1);
        int[][] three = {{0, 0, 50}, {0, 2, 52}, {0, 3, 50}, {1, 0, 51}, {1, 1, 52}, {255, 254, 52}, {255, 255, 50}};
        for (int[] draw : three) {
            due("" + draw[2], () -> made(x, 0, draw[0], draw[1]));
            due(2, x::draws);
        }
        // 4 to the power of 5 are 1024 words: the draws 3 and 255 tell of the last one.
        x.produce(1, 2, 1, -1, -1);
        x.produce(1, 2, -1, -1, -1);
        for (int i = 0; i < 4; i++) {
            x.produce(2, 60 + i, -1, -1, -1);
        }
        due("60,60,60,60,60", () -> made(x, 1, 0, 0));
        due("60,63,63,63,63", () -> made(x, 1, 0, 255));
        due("63,63,63,63,63", () -> made(x, 1, 3, 255));
        due("60,60,60,60,60", () -> made(x, 1, 4, 0));
        due("60,60,60,60,61", () -> made(x, 1, 4, 1));
        // Without a word of its length the whole input is discarded, but not if no word is made.
        int none = x.word(0, 2);
        int list = x.list(none, 1);
        due(NONE, () -> made(x, none, 0, 0));
        due(NONE, () -> made(x, list, 1));
        due("", () -> made(x, list, 0));
        due(NONE, () -> made(x, x.pair(0, none), 0, 0));
    }

    private static void tooLarge() {
        Shrinkery x = numbers();
        due(40, () -> made(x, 6, ones(40)).replace(",", "").length());
        int fortyOne = x.pair(6, 0);
        due(NONE, () -> made(x, fortyOne, 0));
        due(40, x::draws);
        // 40 draws that leave no value, and 20 or 21 more.
        int dropping = x.depends(6, 0);
        int twenty = x.pair(4, 2);
        int sixty = x.pair(dropping, twenty);
        due(20, () -> made(x, sixty, 0).replace(",", "").length());
        due(60, x::draws);
        int more = x.pair(sixty, 0);
        due(NONE, () -> made(x, more, 0));
        due(NONE, () -> x.draw(fortyOne, 1));
        due(40, () -> x.draw(6, 1));
        // 48 or 60 values that are dropped do not count, neither for what depends on them nor for a filter.
        Shrinkery words = new Shrinkery();
        words.produce(0, 1, 1, 1, 1);
        words.produce(1, 10, 10, 10, -1);
        words.word(0, 12);
        words.list(0, 8);
        words.number(7, 7);
        words.depends(1, 2);
        words.filter(1, 9, 3);
        due("", () -> made(words, 3, 4));
        due(9, words::draws);
        due(NONE, () -> made(words, 1, 4));
        due(36, () -> made(words, 1, 3).replace(",", "").length() / 2);
        due("10,10,10,10,10,10,10,10,10,10,10,10", () -> made(words, 4, 5, 0, 0, 0, 0, 0, 0, 0, 0, 0, 0, 1));
        due(14, words::draws);
    }

    private static void replays() {
        Shrinkery x = numbers();
        due("5,6", () -> made(x, 1, 5, 6, 7, 8));
        due("5,6", () -> used(x));
        due("5,6,0,0", () -> made(x, 2, 5, 6));
        due("5,6,0,0", () -> used(x));
        due("0", () -> made(x, 0));
        due("0", () -> used(x));
        due("5", () -> made(x, 0, 5));
        due("5", () -> used(x));
    }

    private static void countedInputs() {
        Shrinkery x = new Shrinkery();
        x.number(0, 255);
        x.number(9, 9);
        x.number(3, 5);
        due(256L, () -> x.inputs(0));
        due(1L, () -> x.inputs(1));
        due(3L, () -> x.inputs(2));
        due(4L, () -> x.inputs(x.choice(1, 2, 9)));
        due(6L, () -> x.inputs(x.choice(2, 2, 1)));
        due(1L, () -> x.inputs(x.list(2, 0)));
        due(4L, () -> x.inputs(x.list(2, 1)));
        due(1L + 3 + 9, () -> x.inputs(x.list(2, 2)));
        due(9L, () -> x.inputs(x.list(1, 8)));
        due(768L, () -> x.inputs(x.pair(0, 2)));
        due(3L, () -> x.inputs(x.tree(2, 0)));
        due(3L + 9, () -> x.inputs(x.tree(2, 1)));
        due(3L + 144, () -> x.inputs(x.tree(2, 2)));
        due(3L + 147 * 147, () -> x.inputs(x.tree(2, 3)));
        due(1L + 26 * 26, () -> x.inputs(x.tree(1, 4)));
        // A filter, a dependence and words stand in the way, in whatever part, though it is never made.
        Shrinkery y = new Shrinkery();
        y.number(0, 1);
        y.filter(0, 2, 0);
        y.depends(0, 0);
        y.word(0, 1);
        for (int i = 1; i <= 3; i++) {
            int part = i;
            due(UNSUPPORTED, () -> y.inputs(part));
            due(UNSUPPORTED, () -> y.inputs(y.list(part, 0)));
            due(UNSUPPORTED, () -> y.inputs(y.choice(0, part, 9)));
            due(UNSUPPORTED, () -> y.inputs(y.tree(part, 0)));
        }
        due(UNSUPPORTED, () -> y.inputs(4));
        due(2L, () -> y.inputs(0));
    }

    /** All values of an input by its number, joined by commas. */
    private static String numbered(Shrinkery x, int generator, int number) {
        int length = x.inputLength(generator, number);
        StringBuilder all = new StringBuilder();
        for (int i = 0; i < length; i++) {
            all.append(i == 0 ? "" : ",").append(x.inputAt(generator, number, i));
        }
        return all.toString();
    }

    private static void areNumbered(Shrinkery x, int generator, String... rows) {
        due((long) rows.length, () -> x.inputs(generator));
        for (int i = 0; i < rows.length; i++) {
            int number = i;
            due(rows[number], () -> numbered(x, generator, number));
        }
        due(NONE, () -> x.inputLength(generator, rows.length));
        due(NONE, () -> x.inputLength(generator, -1));
    }

    private static void numberedInputs() {
        Shrinkery x = new Shrinkery();
        areNumbered(x, x.number(3, 5), "3", "4", "5");
        areNumbered(x, x.number(8, 9), "8", "9");
        areNumbered(x, x.choice(1, 0, 1), "8", "9", "3", "4", "5");
        areNumbered(x, x.choice(1, 1, 9), "8", "9", "8", "9");
        areNumbered(x, x.list(1, 2), "", "8", "9", "8,8", "8,9", "9,8", "9,9");
        areNumbered(x, x.pair(0, 1), "3,8", "3,9", "4,8", "4,9", "5,8", "5,9");
        areNumbered(x, x.tree(1, 0), "8", "9");
        areNumbered(x, x.tree(1, 1), "8", "9", "8,8", "8,9", "9,8", "9,9");
        // A list of pairs, and a pair of lists: the first ones weigh most.
        Shrinkery y = new Shrinkery();
        y.number(1, 2);
        y.number(7, 7);
        y.pair(0, 1);
        y.list(0, 1);
        areNumbered(y, y.list(2, 2), "", "1,7", "2,7", "1,7,1,7", "1,7,2,7", "2,7,1,7", "2,7,2,7");
        areNumbered(y, y.pair(3, 3), "", "1", "2", "1", "1,1", "1,2", "2", "2,1", "2,2");
        // At the depth 2: the part, then two trees of the depth 1, which are 1, 2, 1 1, 1 2, 2 1 and 2 2.
        int deep = y.tree(0, 2);
        due(38L, () -> y.inputs(deep));
        due("1", () -> numbered(y, deep, 0));
        due("2", () -> numbered(y, deep, 1));
        due("1,1", () -> numbered(y, deep, 2));
        due("1,1,1", () -> numbered(y, deep, 4));
        due("1,2,2", () -> numbered(y, deep, 7));
        due("2,1", () -> numbered(y, deep, 8));
        due("1,1,1", () -> numbered(y, deep, 14));
        due("2,2,2,2", () -> numbered(y, deep, 37));
    }

    private static void mostCounted() {
        Shrinkery x = new Shrinkery();
        x.number(0, 99);
        x.pair(0, 0);
        x.pair(1, 1);
        x.number(1, 10);
        x.number(1, 9);
        x.pair(2, 3);
        x.pair(2, 4);
        x.pair(3, 2);
        x.choice(5, 4, 1);
        x.list(7, 1);
        due(100000000L, () -> x.inputs(2));
        due(900000000L, () -> x.inputs(6));
        // Just as many, and more than that.
        due(1000000000L, () -> x.inputs(5));
        due(1000000000L, () -> x.inputs(8));
        due(1000000000L, () -> x.inputs(9));
        due(1000000000L, () -> x.inputs(x.pair(5, 5)));
        due(1000000000L, () -> x.inputs(x.tree(5, 4)));
        due("99,99,99,99,10", () -> numbered(x, 5, 999999999));
        due("10,99,99,99,98", () -> numbered(x, 9, 999999999));
        due(NONE, () -> x.inputLength(5, 1000000000));
        due(NONE, () -> x.inputLength(9, 1000000000));
        due(NONE, () -> x.inputAt(9, MOST, 0));
    }
}
