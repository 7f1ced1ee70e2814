/** The sentences on grammars, on least changes, and on exceptions. */
final class GrammarSentences extends Sentences {
    static void all() {
        sentence("There are the nonterminals 0 to 5, each with at most 4 productions of 1 to 4 symbols: nonterminals, "
                + "or letters, 10 to 99.", GrammarSentences::productions);
        sentence("A production of one nonterminal leads to one with a greater number.", GrammarSentences::greater);
        sentence("Words of a length, 1 to 12, are numbered from 0, each derivation by itself: by productions, in their "
                + "order, then by the length of what its first symbol makes, rising, then by the number of that, then "
                + "likewise by what the others make.", GrammarSentences::numberedWords);
        sentence("There are at most 1000000000 counted, more are not told apart from as many.",
                GrammarSentences::mostCounted);
        sentence("Two programs with as many instructions differ by changes, the instructions that are otherwise in the "
                + "second one, k and t not counted where they are of no meaning.", GrammarSentences::changes);
        sentence("A set of changes breaks if the first program with these has a fault on the values of the failure.",
                GrammarSentences::breaks);
        sentence("A least set begins with all changes: with n being 2 at first, the set is parted into n parts, of its "
                + "changes by rising numbers, the first ones by one greater if it does not come out;",
                GrammarSentences::parts);
        sentence("the first part that breaks becomes the set, and n is 2;", GrammarSentences::firstPart);
        sentence("otherwise the first one whose leaving out breaks, the rest becoming the set, and n one less, but at "
                + "least 2;", GrammarSentences::firstRest);
        sentence("otherwise, if n is the number of changes or more, it ends, else n is doubled, but at most the number "
                + "of changes.", GrammarSentences::doubled);
        sentence("A set of one change is least.", GrammarSentences::oneChange);
        sentence("A method that throws an exception changes nothing.", GrammarSentences::nothingChanged);
        sentence("If several exceptions apply, the one that is listed first is thrown.", GrammarSentences::firstListed);
    }

    private static void productions() {
        Shrinkery x = new Shrinkery();
        due(IAE, () -> x.produce(-1, 10, -1, -1, -1));
        due(IAE, () -> x.produce(6, 10, -1, -1, -1));
        for (int i = 0; i <= 5; i++) {
            int nonterminal = i;
            due(1, () -> x.produce(nonterminal, 10, -1, -1, -1));
            due(2, () -> x.produce(nonterminal, 99, 10, -1, -1));
            due(3, () -> x.produce(nonterminal, 0, 10, 5, -1));
            due(3, () -> x.words(nonterminal, 1) + x.words(nonterminal, 2) + 1);
            due(4, () -> x.produce(nonterminal, 10, 99, 0, 5));
            due(ISE, () -> x.produce(nonterminal, 10, -1, -1, -1));
            due(99, () -> x.letterAt(nonterminal, 2, 0, 0));
        }
        // The nonterminal 0 is a symbol at each place, and its words are made there.
        Shrinkery zero = new Shrinkery();
        zero.produce(0, 77, -1, -1, -1);
        zero.produce(1, 0, 10, -1, -1);
        zero.produce(2, 10, 0, -1, -1);
        zero.produce(3, 10, 11, 0, -1);
        zero.produce(4, 10, 11, 12, 0);
        due("77 10", () -> word(zero, 1, 2, 0));
        due("10 77", () -> word(zero, 2, 2, 0));
        due("10 11 77", () -> word(zero, 3, 3, 0));
        due("10 11 12 77", () -> word(zero, 4, 4, 0));
        due(0, () -> zero.words(4, 3) + zero.words(3, 2) + zero.words(2, 1) + zero.words(1, 1));
        Shrinkery y = new Shrinkery();
        for (int none : new int[] {-2, 6, 9, 100, LEAST, MOST}) {
            due(IAE, () -> y.produce(0, none, -1, -1, -1));
            due(IAE, () -> y.produce(0, 10, none, -1, -1));
            due(IAE, () -> y.produce(0, 10, 10, none, -1));
            due(IAE, () -> y.produce(0, 10, 10, 10, none));
        }
        // None ahead of one, or no symbol at all.
        due(IAE, () -> y.produce(0, -1, -1, -1, -1));
        due(IAE, () -> y.produce(0, -1, 10, -1, -1));
        due(IAE, () -> y.produce(0, 10, -1, 10, -1));
        due(IAE, () -> y.produce(0, 10, -1, -1, 10));
        due(IAE, () -> y.produce(0, 10, 10, -1, 10));
        due(1, () -> y.produce(0, 5, -1, -1, -1));
    }

    private static void greater() {
        for (int from = 0; from <= 5; from++) {
            for (int to = 0; to <= 5; to++) {
                int one = from;
                int other = to;
                Object due = to > from ? 1 : IAE;
                due(due, () -> new Shrinkery().produce(one, other, -1, -1, -1));
                due(1, () -> new Shrinkery().produce(one, other, 10, -1, -1));
                due(1, () -> new Shrinkery().produce(one, other, other, -1, -1));
            }
        }
        // Through all of them there is one word, of one letter.
        Shrinkery x = new Shrinkery();
        for (int i = 0; i < 5; i++) {
            x.produce(i, i + 1, -1, -1, -1);
        }
        due(0, () -> x.words(0, 1));
        x.produce(5, 42, -1, -1, -1);
        due(1, () -> x.words(0, 1));
        due(0, () -> x.words(0, 2));
        due(42, () -> x.letterAt(0, 1, 0, 0));
    }

    private static String word(Shrinkery x, int nonterminal, int length, int number) {
        StringBuilder all = new StringBuilder();
        for (int i = 0; i < length; i++) {
            all.append(i == 0 ? "" : " ").append(x.letterAt(nonterminal, length, number, i));
        }
        return all.toString();
    }

    private static void areWords(Shrinkery x, int nonterminal, int length, String... words) {
        due(words.length, () -> x.words(nonterminal, length));
        for (int i = 0; i < words.length; i++) {
            int number = i;
            due(words[number], () -> word(x, nonterminal, length, number));
        }
        due(NONE, () -> x.letterAt(nonterminal, length, words.length, 0));
        due(NONE, () -> x.letterAt(nonterminal, length, -1, 0));
    }

    private static void numberedWords() {
        Shrinkery x = new Shrinkery();
        x.produce(0, 1, 1, -1, -1);
        x.produce(0, 1, -1, -1, -1);
        x.produce(0, 50, 1, 1, -1);
        x.produce(1, 10, 11, -1, -1);
        x.produce(1, 12, -1, -1, -1);
        x.produce(1, 13, -1, -1, -1);
        areWords(x, 1, 1, "12", "13");
        areWords(x, 1, 2, "10 11");
        areWords(x, 0, 1, "12", "13");
        // By productions: first of two symbols, then of one.
        areWords(x, 0, 2, "12 12", "12 13", "13 12", "13 13", "10 11");
        // The first symbol's length rises, then its number; of the third production the others' likewise.
        areWords(x, 0, 3, "12 10 11", "13 10 11", "10 11 12", "10 11 13", "50 12 12", "50 12 13", "50 13 12",
                "50 13 13");
        areWords(x, 0, 4, "10 11 10 11", "50 12 10 11", "50 13 10 11", "50 10 11 12", "50 10 11 13");
        areWords(x, 0, 5, "50 10 11 10 11");
        areWords(x, 0, 6);
        // Four symbols, the second and the third one of two lengths each.
        Shrinkery four = new Shrinkery();
        four.produce(0, 1, 1, 1, 1);
        four.produce(1, 20, -1, -1, -1);
        four.produce(1, 21, 21, -1, -1);
        areWords(four, 0, 4, "20 20 20 20");
        areWords(four, 0, 5, "20 20 20 21 21", "20 20 21 21 20", "20 21 21 20 20", "21 21 20 20 20");
        areWords(four, 0, 6, "20 20 21 21 21 21", "20 21 21 20 21 21", "20 21 21 21 21 20", "21 21 20 20 21 21",
                "21 21 20 21 21 20", "21 21 21 21 20 20");
        // Each derivation by itself, though the words be alike.
        Shrinkery twice = new Shrinkery();
        twice.produce(0, 0, 0, -1, -1);
        twice.produce(0, 30, -1, -1, -1);
        areWords(twice, 0, 3, "30 30 30", "30 30 30");
        due(58786, () -> twice.words(0, 12));
        due(IAE, () -> twice.words(0, 0));
        due(IAE, () -> twice.words(0, 13));
        due(1, () -> twice.words(0, 1));
        due(30, () -> twice.letterAt(0, 12, 58785, 11));
        due(NONE, () -> twice.letterAt(0, 12, 58786, 11));
    }

    /** Ten words of one letter by the nonterminal 1: as many words of a length by 0 as 10 to the power of it. */
    private static Shrinkery tens() {
        Shrinkery x = new Shrinkery();
        x.produce(0, 1, 0, -1, -1);
        x.produce(0, 1, -1, -1, -1);
        x.produce(1, 2, -1, -1, -1);
        x.produce(1, 3, -1, -1, -1);
        x.produce(1, 18, -1, -1, -1);
        x.produce(1, 19, -1, -1, -1);
        for (int i = 0; i < 4; i++) {
            x.produce(2, 10 + i, -1, -1, -1);
            x.produce(3, 14 + i, -1, -1, -1);
        }
        return x;
    }

    private static void mostCounted() {
        Shrinkery x = tens();
        due(100000000, () -> x.words(0, 8));
        due(1000000000, () -> x.words(0, 9));
        due(1000000000, () -> x.words(0, 10));
        due(1000000000, () -> x.words(0, 12));
        due("19 19 19 19 19 19 19 19", () -> word(x, 0, 8, 99999999));
        due(NONE, () -> x.letterAt(0, 8, 100000000, 0));
        due("19 19 19 19 19 19 19 19 19", () -> word(x, 0, 9, 999999999));
        due(NONE, () -> x.letterAt(0, 9, 1000000000, 0));
        due("10 19 19 19 19 19 19 19 19 19", () -> word(x, 0, 10, 999999999));
        due("10 10 10 11 12 13 14 15 16 17 18 19", () -> word(x, 0, 12, 123456789));
        due(NONE, () -> x.letterAt(0, 10, 1000000000, 0));
        due(NONE, () -> x.letterAt(0, 12, MOST, 0));
        // The words of another production come behind all that are counted: the last one that is has its letters.
        x.produce(4, 0, 50, -1, -1);
        x.produce(4, 60, 0, -1, -1);
        due(200000000, () -> x.words(4, 9));
        due("60 10 10 10 10 10 10 10 10", () -> word(x, 4, 9, 100000000));
        due(1000000000, () -> x.words(4, 10));
        due("19 19 19 19 19 19 19 19 19 50", () -> word(x, 4, 10, 999999999));
    }

    /** A least set between two programs, on the values of a failure: a number v. */
    private static int least(int v, String one, String other) {
        Shrinkery x = new Shrinkery();
        x.number(v, v);
        x.property('s', v - 1, 0);
        x.run(0, 0, 1, 1, 0);
        int first = code(x, one);
        return x.least(first, code(x, other));
    }

    private static void changes() {
        // Where the first program has a fault itself, one change is that set, and no change is the set of none.
        due(UNSUPPORTED, () -> least(7, "r x1", "r r x1"));
        due(UNSUPPORTED, () -> least(7, "x1", ""));
        due(NONE, () -> least(7, "", ""));
        due(0, () -> least(7, "r x1", "r x1"));
        due(0, () -> least(7, "r5:3 x1", "r6:4 x1"));
        due(0, () -> least(7, "o5:3 x1", "o6:4 x1"));
        due(0, () -> least(7, "e5:1 x1", "e6:1 x1"));
        due(0, () -> least(7, "j5:1 x1", "j6:1 x1"));
        due(0, () -> least(7, "+5:3 x1", "+5:4 x1"));
        due(0, () -> least(7, "*5:3 x1", "*5:4 x1"));
        due(0, () -> least(7, "%5:3 x1", "%5:4 x1"));
        due(0, () -> least(7, "r x1:3", "r x1:4"));
        due(1, () -> least(7, "+5 x1", "+6 x1"));
        due(1, () -> least(7, "*5 x1", "*6 x1"));
        due(1, () -> least(7, "%5 x1", "%6 x1"));
        due(1, () -> least(7, "<5:1 x1", "<6:1 x1"));
        due(1, () -> least(7, "<5:1 x1", "<5:0 x1"));
        due(1, () -> least(7, "=5:1 x1", "=6:1 x1"));
        due(1, () -> least(7, "=5:1 x1", "=5:2 x1"));
        due(1, () -> least(7, "e:1 x1", "e:2 x1"));
        due(1, () -> least(7, "j:1 x1", "j:0 x1"));
        due(2, () -> least(7, "r x1", "r x2"));
        due(1, () -> least(7, "r5 x1", "+5 x1"));
        due(1, () -> least(7, "<5:1 x1", "=5:1 x1"));
        // The last one of sixteen counts as 2 to the power of 15.
        String fifteen = "r r r r r r r r r r r r r r r ";
        due(1 << 15, () -> least(7, fifteen + "r", fifteen + "x1"));
    }

    private static void breaks() {
        due(8, () -> least(7, "r =7:3 j:15 j:15", "r =7:3 j:15 x1"));
        due(NONE, () -> least(6, "r =7:3 j:15 j:15", "r =7:3 j:15 x1"));
        due(NONE, () -> least(8, "r =7:3 j:15 j:15", "r =7:3 j:15 x1"));
        // The fault 0 is one, and so is that of a program that does not end.
        due(2, () -> least(7, "r r", "r x0"));
        due(2, () -> least(7, "r j:2", "r j:0"));
        due(NONE, () -> least(7, "r j:2", "r j:3"));
        // All changes have to break, though none of them would.
        due(NONE, () -> least(7, "x1 r", "r r"));
        due(1, () -> least(7, "x1 r", "x2 r"));
        // It is the failure's values, not those of the input: as it is shrunk they are others.
        Shrinkery x = new Shrinkery();
        x.number(0, 255);
        x.property('s', 9, 0);
        x.run(0, 0, seedOf(77, 0), 1, 0);
        made(x, 0, 5);
        code(x, "r =77:3 j:15 j:15");
        code(x, "r =77:3 j:15 x1");
        code(x, "r =10:3 j:15 j:15");
        code(x, "r =10:3 j:15 x1");
        due(8, () -> x.least(0, 1));
        due(NONE, () -> x.least(2, 3));
        x.shrink(400);
        due(NONE, () -> x.least(0, 1));
        due(8, () -> x.least(2, 3));
    }

    /**
     * The least set of so many changes, each of which adds a number of its own to A; a set breaks if what it adds is
     * among some sums, that of all changes being one.
     */
    private static int leastOf(int[] adding, int... sums) {
        StringBuilder one = new StringBuilder();
        StringBuilder other = new StringBuilder();
        StringBuilder rest = new StringBuilder();
        int end = adding.length + sums.length + 1;
        for (int number : adding) {
            one.append("+0 ");
            other.append("+").append(number).append(" ");
        }
        for (int sum : sums) {
            rest.append("=").append(sum).append(":").append(end).append(" ");
        }
        rest.append("j:15 x1");
        return least(7, one.toString() + rest, other.toString() + rest);
    }

    private static int[] powers(int many) {
        int[] all = new int[many];
        for (int i = 0; i < many; i++) {
            all[i] = 1 << i;
        }
        return all;
    }

    private static void parts() {
        // Five by two: 0 to 2, and 3 and 4.
        due(7, () -> leastOf(powers(5), 31, 7));
        due(24, () -> leastOf(powers(5), 31, 24));
        due(28, () -> leastOf(powers(5), 31, 28));
        // Five by four: 0 and 1, then each other one alone.
        due(3, () -> leastOf(powers(5), 31, 3));
        due(31, () -> leastOf(powers(5), 31, 6));
        due(31, () -> leastOf(powers(5), 31, 12));
        due(16, () -> leastOf(powers(5), 31, 16));
        // Six by four: 0 and 1, 2 and 3, then 4, and 5.
        due(12, () -> leastOf(powers(6), 63, 12));
        due(63, () -> leastOf(powers(6), 63, 48));
        due(32, () -> leastOf(powers(6), 63, 32));
        // Seven by two and by four.
        due(15, () -> leastOf(powers(7), 127, 15));
        due(112, () -> leastOf(powers(7), 127, 112));
        due(48, () -> leastOf(powers(7), 127, 48));
        due(127, () -> leastOf(powers(7), 127, 96));
        // By rising numbers of those that are left: 1, 3 and 5 are parted into 1 and 3, and 5.
        due(10, () -> leastOf(new int[] {64, 2, 0, 8, 0, 32}, 106, 42, 10));
    }

    private static void firstPart() {
        due(7, () -> leastOf(powers(5), 31, 7, 24));
        due(1, () -> leastOf(powers(2), 3, 1, 2));
        due(2, () -> leastOf(powers(2), 3, 2));
        // A part before what is left without one.
        due(192, () -> leastOf(powers(8), 255, 252, 192));
        // Behind four parts it is two again: of 0, 1 and 2 the first two, not the last one alone.
        due(3, () -> leastOf(new int[] {1, 2, 4, 8, 16, 32, 64, 100, 28}, 255, 7, 3, 4));
        due(4, () -> leastOf(new int[] {1, 2, 4, 8, 16, 32, 64, 100, 28}, 255, 7, 4));
    }

    private static void firstRest() {
        // Without 0 and 1, or without 2 and 3: the first one breaks.
        due(252, () -> leastOf(powers(8), 255, 252, 243));
        due(243, () -> leastOf(powers(8), 255, 243, 207));
        due(63, () -> leastOf(powers(8), 255, 63));
        // Without the first one of four parts there are three then: 2 and 3, 4 and 5, 6 and 7; neither two, of which
        // 2 to 4 would be one, nor four, of which 6 would be one.
        due(204, () -> leastOf(powers(8), 255, 252, 204, 28));
        due(60, () -> leastOf(powers(8), 255, 252, 60, 64));
        // Behind three there are two, then four: without 2, of 2, 3, 6 and 7, comes ahead of that without 6.
        due(200, () -> leastOf(powers(8), 255, 252, 204, 200, 140));
        due(192, () -> leastOf(powers(8), 255, 252, 192));
        due(6, () -> leastOf(powers(3), 7, 6));
        due(5, () -> leastOf(powers(3), 7, 5));
        due(3, () -> leastOf(powers(3), 7, 3));
    }

    private static void doubled() {
        due(31, () -> leastOf(powers(5), 31));
        // Four parts of five: without the last one; five parts of five: without the first one.
        due(15, () -> leastOf(powers(5), 31, 15));
        due(30, () -> leastOf(powers(5), 31, 30));
        due(29, () -> leastOf(powers(5), 31, 29));
        // Three of three, and not more: what is left of those that are less is tried no more.
        due(6, () -> leastOf(powers(3), 7, 6));
        due(2, () -> leastOf(powers(3), 7, 2));
        // Two of two: without one of them is the other one.
        due(3, () -> leastOf(powers(2), 3));
        due(15, () -> leastOf(powers(4), 15));
        due(14, () -> leastOf(powers(4), 15, 14));
        due(255, () -> leastOf(powers(8), 255));
        due(254, () -> leastOf(powers(8), 255, 254));
        due(127, () -> leastOf(powers(8), 255, 127));
        // Behind four there are eight, not six: without the first one, not without 4.
        due(254, () -> leastOf(powers(8), 255, 254, 239));
        // Twice four are eight, of seven they are seven: without one of them.
        due(95, () -> leastOf(powers(7), 127, 95));
    }

    private static void oneChange() {
        // Though the first program has a fault without it.
        due(2, () -> least(7, "x1 +0", "x1 +1"));
        due(1, () -> leastOf(powers(1), 1));
        due(1, () -> leastOf(powers(2), 3, 1, 0));
        due(4, () -> leastOf(powers(3), 7, 4, 0));
        // None is no set of one: it is tried neither as a part nor as what is left.
        due(3, () -> leastOf(powers(2), 3, 0));
    }

    private static void nothingChanged() {
        Shrinkery x = numbers();
        x.produce(0, 10, -1, -1, -1);
        int none = x.word(1, 1);
        made(x, 1, 5, 6);
        due(NONE, () -> x.replay(none));
        due(NONE, () -> x.draw(none, 1));
        due("5,6", () -> values(x, 2));
        due("5,6", () -> used(x));
        due(IAE, () -> x.type(256));
        due(2, x::erase);
        x.property('s', 0, 0);
        x.run(0, 0, 4, 1, 0);
        due(IAE, () -> x.run(0, 0, 5, 0, 0));
        due(1.0f, x::breakShare);
        due(0, x::tested);
        due(IAE, () -> x.shrink(0));
        due(drawOf(4, 1), () -> x.failureDraw(0));
        code(x, "r");
        x.search(0, 0, 4, 0);
        due(IAE, () -> x.search(0, 0, 5, 101));
        due(drawOf(4, 1), () -> x.corpusDraw(0, 0));
        due(IAE, () -> x.instruct(0, 'x', 256, 0));
        due(-1, () -> x.faultOf(0));
        x.command(0, 1);
        due(IAE, () -> x.queue(2, 4));
        due(NONE, x::makeSmall);
        due(1, () -> x.queue(1, 0));
        due(IAE, () -> x.produce(0, 0, -1, -1, -1));
        due(2, () -> x.produce(0, 11, -1, -1, -1));
    }

    private static void firstListed() {
        Shrinkery x = new Shrinkery();
        due(OUT, () -> x.choice(0, 0, 10));
        due(OUT, () -> x.draw(0, 0));
        due(OUT, () -> x.instruct(0, 'q', 0, 0));
        due(OUT, () -> x.faultOf(0));
        due(OUT, () -> x.level(0, 16, 17));
        due(OUT, () -> x.require(0, 0, 0));
        due(OUT, () -> x.run(0, 0, 0, 0, -1));
        due(IAE, () -> x.shrink(0));
        due(NONE, () -> x.failureDraw(-1));
        due(OUT, () -> x.search(0, 0, 0, -1));
        due(OUT, () -> x.beside(2, 2, 10));
        due(IAE, () -> x.letterAt(0, 0, -1, 0));
        x.program();
        due(IAE, () -> x.level(0, 16, 0));
        due(NONE, () -> x.level(0, 15, 16));
        due(NONE, () -> x.classOf(0));
        due(NONE, () -> x.least(0, 0));
        x.program();
        x.instruct(1, 'r', 0, 0);
        due(UNSUPPORTED, () -> x.least(0, 1));
        due(OUT, () -> x.least(0, 2));
        x.number(0, 1);
        x.filter(0, 2, 0);
        due(UNSUPPORTED, () -> x.inputLength(1, -1));
        due(OUT, () -> x.inputLength(2, -1));
    }
}
