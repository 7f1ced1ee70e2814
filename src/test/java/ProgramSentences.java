/** The sentences on programs: instructions, ends and faults, edges, and classes of faults. */
final class ProgramSentences extends Sentences {
    /** Eleven instructions that make A -1: 255 times 16843009 is 2 to the power of 32, less 1. */
    private static final String MINUS_ONE = "+1 *128 *2 +1 *128 *2 +1 *128 *2 +1 *255";
    /** Ten instructions that make A the greatest int. */
    private static final String GREATEST = "+127 *128 *2 +255 *128 *2 +255 *128 *2 +255";

    static void all() {
        sentence("At most 6 programs are numbered from 0, each of at most 16 instructions, numbered from 0.",
                ProgramSentences::atMostSix);
        sentence("A program has a number A, an int that wraps, 0 at first, and an output, 0 at first.",
                ProgramSentences::atFirst);
        sentence("Instructions: 'r' A is the next value of the input more, 0 behind the last one;",
                ProgramSentences::reads);
        sentence("'+' A is k more;", ProgramSentences::adds);
        sentence("'*' A becomes A times k;", ProgramSentences::multiplies);
        sentence("'%' A becomes what is left of A by k plus 1, never below 0;", ProgramSentences::isLeft);
        sentence("'<' it goes on at t if A is less than k;", ProgramSentences::isLess);
        sentence("'=' at t if A is k;", ProgramSentences::isEqual);
        sentence("'e' at t if no value is left;", ProgramSentences::isOver);
        sentence("'j' at t;", ProgramSentences::jumps);
        sentence("'o' the output becomes 31 times itself plus A;", ProgramSentences::puts);
        sentence("'x' a fault k.", ProgramSentences::faults);
        sentence("It ends without one behind the last instruction, or as it goes on at an instruction that there is "
                + "not;", ProgramSentences::ends);
        sentence("behind 200 instructions, if it did not end, there is the fault 256.", ProgramSentences::endless);
        sentence("An edge leads from an instruction to that at which it goes on, or to the end, which is 16, also from "
                + "the 200th one, and to the end if it goes on at an instruction that there is not; from an 'x' that "
                + "ends it none.", ProgramSentences::leads);
        sentence("Its level is 1, 2, 3 for as many times, 4 for 4 to 7 times, 5 for more.", ProgramSentences::levels);
        sentence("The class of a fault is its number times 4096, plus 256, 16 and 1 times the numbers of the last, the "
                + "last but one and the last but two instructions of the kinds '<', '=', 'e' and 'j' at which it went "
                + "on at t, whether that is there or not, 0 where there is none.", ProgramSentences::classesOfFaults);
    }

    private static void atMostSix() {
        Shrinkery x = withInput();
        due(OUT, () -> x.instruct(0, 'r', 0, 0));
        for (int i = 0; i < 6; i++) {
            int number = i;
            due(OUT, () -> x.faultOf(number));
            due(number, x::program);
            due(-1, () -> x.faultOf(number));
        }
        due(ISE, x::program);
        due(OUT, () -> x.instruct(6, 'r', 0, 0));
        for (int i = 1; i <= 15; i++) {
            int count = i;
            due(count, () -> x.instruct(5, '+', 1, 0));
        }
        due(16, () -> x.instruct(5, 'o', 1, 0));
        due(ISE, () -> x.instruct(5, 'x', 1, 0));
        due(15, () -> x.output(5));
        due(16, () -> x.edges(5));
        // Each program has 16 of its own; the first one is the number 0.
        due(1, () -> x.instruct(4, 'j', 0, 0));
        due(256, () -> x.faultOf(4));
        due(1, () -> x.instruct(3, 'j', 0, 1));
        due(-1, () -> x.faultOf(3));
    }

    private static void atFirst() {
        due(1, () -> fault("=0:2 x2 x1"));
        due(0, () -> output("+5"));
        due(0, () -> output(""));
        due(7, () -> output("+7 o"));
        due(MOST, () -> output(GREATEST + " o"));
        due(31 * MOST + LEAST, () -> output(GREATEST + " o +1 o"));
        due(2, () -> fault(GREATEST + " <0:13 j:14 x1 x1 x2"));
        due(1, () -> fault(GREATEST + " +1 <0:13 x2 x1"));
        due(-1, () -> output(MINUS_ONE + " o"));
        due(1, () -> fault(MINUS_ONE + " +1 =0:14 x2 x1"));
        // A and the output are 0 again for each run, and all values are there again.
        Shrinkery x = withInput(9);
        int program = code(x, "r o");
        due(9, () -> x.output(program));
        due(9, () -> x.output(program));
        due(2, () -> x.edges(program));
        due(2, () -> x.edges(program));
    }

    private static void reads() {
        due(3, () -> output("r o", 3, 4));
        due(7, () -> output("r r o", 3, 4));
        due(7, () -> output("r r r o", 3, 4));
        due(7, () -> output("r r r r r r r r r r o", 3, 4));
        due(0, () -> output("r o"));
        due(255, () -> output("r o", 255));
        due(15, () -> output("+5 r r o", 0, 10));
    }

    private static void adds() {
        due(0, () -> output("+0 o"));
        due(1, () -> output("+1 o"));
        due(255, () -> output("+255 o"));
        due(510, () -> output("+255 +255 o"));
        due(LEAST, () -> output(GREATEST + " +1 o"));
        due(LEAST + 254, () -> output(GREATEST + " +255 o"));
    }

    private static void multiplies() {
        due(0, () -> output("+9 *0 o"));
        due(9, () -> output("+9 *1 o"));
        due(255 * 255, () -> output("+255 *255 o"));
        due(0, () -> output("*255 o"));
        // 2 to the power of 30, of 31, and of 32, of which nothing is left.
        due(1 << 30, () -> output("+128 *128 *128 *128 *4 o"));
        due(LEAST, () -> output("+128 *128 *128 *128 *8 o"));
        due(0, () -> output("+128 *128 *128 *128 *16 o"));
        due(-255, () -> output(MINUS_ONE + " *255 o"));
    }

    private static void isLeft() {
        due(0, () -> output("+9 %0 o"));
        due(8, () -> output("+8 %8 o"));
        due(0, () -> output("+9 %8 o"));
        due(1, () -> output("+10 %8 o"));
        due(255, () -> output("+255 %255 o"));
        due(0, () -> output("+255 +1 %255 o"));
        due(1, () -> output("+255 %1 o"));
        due(0, () -> output("%5 o"));
        // -1 is 9 above a multiple of 10, -10 is one itself, -11 is 9 above another one.
        due(9, () -> output(MINUS_ONE + " %9 o"));
        due(0, () -> output(MINUS_ONE + " *10 %9 o"));
        due(9, () -> output(MINUS_ONE + " *11 %9 o"));
        due(0, () -> output(MINUS_ONE + " %0 o"));
        due(255, () -> output(MINUS_ONE + " %255 o"));
        due(Math.floorMod(LEAST, 255), () -> output(GREATEST + " +1 %254 o"));
    }

    private static void isLess() {
        due(2, () -> fault("r <5:3 x1 x2", 4));
        due(1, () -> fault("r <5:3 x1 x2", 5));
        due(1, () -> fault("r <5:3 x1 x2", 6));
        due(1, () -> fault("r <0:3 x1 x2", 0));
        due(2, () -> fault("r <1:3 x1 x2", 0));
        due(2, () -> fault("r <255:3 x1 x2", 254));
        due(1, () -> fault("r <255:3 x1 x2", 255));
        due(2, () -> fault(MINUS_ONE + " <0:13 x1 x2"));
        due(1, () -> fault(GREATEST + " <255:12 x1 x2"));
    }

    private static void isEqual() {
        due(1, () -> fault("r =5:3 x1 x2", 4));
        due(2, () -> fault("r =5:3 x1 x2", 5));
        due(1, () -> fault("r =5:3 x1 x2", 6));
        due(2, () -> fault("r =0:3 x1 x2", 0));
        due(2, () -> fault("r =255:3 x1 x2", 255));
        due(1, () -> fault(MINUS_ONE + " =255:13 x1 x2"));
    }

    private static void isOver() {
        due(2, () -> fault("e:2 x1 x2"));
        due(1, () -> fault("e:2 x1 x2", 0));
        due(2, () -> fault("r e:3 x1 x2", 0));
        due(1, () -> fault("r e:3 x1 x2", 0, 0));
        due(2, () -> fault("r r e:4 x1 x2", 0, 0));
        due(2, () -> fault("r r r e:5 x1 x2", 0, 0));
        due(2, () -> fault("r r r e:5 x1 x2"));
    }

    private static void jumps() {
        due(2, () -> fault("j:2 x1 x2"));
        due(1, () -> fault("j:1 x1 x2"));
        due(256, () -> fault("j:0"));
        due(-1, () -> fault("j:15 x1"));
        due(3, () -> fault("j:15 x1 x1 x1 x1 x1 x1 x1 x1 x1 x1 x1 x1 x1 x1 x3"));
        due(1, () -> fault("j:2 x1 j:1"));
        due(5, () -> output("+5 o j:3"));
        due(0, () -> output("+5 j:2 j:3"));
    }

    private static void puts() {
        due(5, () -> output("+5 o"));
        due(31 * 5 + 5, () -> output("+5 o o"));
        due(31 * (31 * 5 + 5) + 6, () -> output("+5 o o +1 o"));
        due(31, () -> output("+1 o *0 o"));
        due(-1, () -> output(MINUS_ONE + " o"));
        due(-32, () -> output(MINUS_ONE + " o o"));
        due(32 * MOST, () -> output(GREATEST + " o o"));
    }

    private static void faults() {
        due(0, () -> fault("x0"));
        due(255, () -> fault("x255"));
        due(1, () -> fault("x1 x2"));
        due(-1, () -> fault("j:2 x1"));
        // It ends there: no value is read, and nothing put out, behind it.
        due(5, () -> output("+5 o x1 o"));
        due(0, () -> output("x1 +5 o"));
    }

    private static void ends() {
        due(-1, () -> fault(""));
        due(-1, () -> fault("r"));
        due(-1, () -> fault("j:2 +1"));
        due(4, () -> fault("j:1 x4"));
        due(-1, () -> fault("j:2 x4"));
        due(-1, () -> fault("j:3 x4"));
        due(-1, () -> fault("=0:2 x4"));
        due(-1, () -> fault("<1:15 x4"));
        due(-1, () -> fault("e:15 x4"));
        String fifteen = " x1 x1 x1 x1 x1 x1 x1 x1 x1 x1 x1 x1 x1 x4";
        due(4, () -> fault("j:14" + fifteen));
        due(-1, () -> fault("j:15" + fifteen));
        due(5, () -> fault("j:15" + fifteen + " x5"));
        // An instruction that is put behind it later is there.
        Shrinkery x = withInput();
        int program = code(x, "j:1");
        due(-1, () -> x.faultOf(program));
        x.instruct(program, 'x', 6, 0);
        due(6, () -> x.faultOf(program));
    }

    private static void endless() {
        // Each turn of the loop is two instructions.
        due(-1, () -> fault("+1 <99:0"));
        due(-1, () -> fault("+1 <100:0"));
        due(256, () -> fault("+1 <101:0"));
        due(-1, () -> fault("+1 <99:0 +0 +0"));
        due(256, () -> fault("+1 <99:0 +0 +0 +0"));
        due(-1, () -> fault("+1 <99:0 +0 j:4"));
        due(-1, () -> fault("+1 <99:0 +0 j:15"));
        due(256, () -> fault("+1 <99:0 +0 j:3"));
        due(7, () -> fault("+1 <99:0 +0 x7"));
        due(256, () -> fault("+1 <100:0 x7"));
        due(99, () -> output("+1 <99:0 +0 o o"));
        due(0, () -> output("+1 <100:0 o"));
        due(256, () -> fault("j:0"));
    }

    private static void leads() {
        due(1, () -> level("r +1", 0, 1));
        due(1, () -> level("r +1", 1, 16));
        due(0, () -> level("r +1", 1, 2));
        due(0, () -> level("r +1", 0, 16));
        due(2, () -> edges("r +1"));
        due(0, () -> edges(""));
        // At an instruction that there is not: the end, whichever it is.
        due(1, () -> level("r j:2", 1, 16));
        due(0, () -> level("r j:2", 1, 2));
        due(1, () -> level("r j:15", 1, 16));
        due(0, () -> level("r j:15", 1, 15));
        due(1, () -> level("=0:15 x1", 0, 16));
        due(1, () -> level("=0:1 x1", 0, 1));
        due(1, () -> level("r =0:9", 1, 16));
        due(1, () -> level("r =9:9", 1, 16));
        // From the 200th one as from any other: to that at which it goes on, or to the end.
        due(1, () -> level("+1 <99:0 +0 o o", 3, 4));
        due(0, () -> level("+1 <99:0 +0 o o", 3, 16));
        due(0, () -> level("+1 <99:0 +0 o o", 4, 16));
        due(1, () -> level("+1 <99:0 +0 o", 3, 16));
        due(1, () -> level("+1 <99:0 +0 j:1", 3, 1));
        due(5, () -> edges("+1 <99:0 +0 j:1"));
        due(1, () -> level("+1 <99:0 +0 j:9", 3, 16));
        // From a fault there is none.
        due(1, () -> edges("r x1 r"));
        due(0, () -> level("r x1 r", 1, 2));
        due(0, () -> level("r x1 r", 1, 16));
        due(0, () -> edges("x1"));
        due(0, () -> level("+1 <99:0 +0 x7", 3, 16));
    }

    private static void levels() {
        int[] levels = {0, 1, 2, 3, 4, 4, 4, 4, 5, 5, 5};
        for (int times = 1; times <= 10; times++) {
            int often = times;
            due(levels[often], () -> level("+1 <" + often + ":0", 0, 1));
            due(levels[often - 1], () -> level("+1 <" + often + ":0", 1, 0));
            due(1, () -> level("+1 <" + often + ":0", 1, 16));
        }
        due(5, () -> level("j:0", 0, 0));
    }

    private static void classesOfFaults() {
        due(0, () -> type("x0"));
        due(255 * 4096, () -> type("x255"));
        due(256 * 4096, () -> type("j:0"));
        due(256 * 4096 + 256 + 16 + 1, () -> type("r j:0"));
        due(4096, () -> type("r x1"));
        // One, two, three of them, and a fourth one, by which the first one is of no account.
        due(4096 + 256, () -> type("r j:2 x1"));
        due(4096 + 2 * 256 + 16, () -> type("r j:2 j:3 x1"));
        due(4096 + 3 * 256 + 2 * 16 + 1, () -> type("r j:2 j:3 j:4 x1"));
        due(4096 + 4 * 256 + 3 * 16 + 2, () -> type("r j:2 j:3 j:4 j:5 x1"));
        due(4096 + 14 * 256, () -> type("j:14 x0 x0 x0 x0 x0 x0 x0 x0 x0 x0 x0 x0 x0 j:15 x1"));
        // Each of the kinds, as it goes on at t and as it does not, though t be the next one.
        due(4096 + 256, () -> type("r <5:2 x1", 4));
        due(4096, () -> type("r <5:2 x1", 5));
        due(4096 + 256, () -> type("r =5:2 x1", 5));
        due(4096, () -> type("r =5:2 x1", 4));
        due(4096 + 256, () -> type("r e:2 x1", 5));
        due(4096, () -> type("r e:2 x1", 5, 6));
        // Each run has its own: those of another program, run before, are none.
        Shrinkery x = withInput(5);
        int three = code(x, "r j:2 j:3 j:4 x1");
        int one = code(x, "r r e:3 x1");
        due(4096 + 3 * 256 + 2 * 16 + 1, () -> x.classOf(three));
        due(4096 + 2 * 256, () -> x.classOf(one));
        due(4096 + 3 * 256 + 2 * 16 + 1, () -> x.classOf(three));
        int none = code(x, "x1");
        due(4096, () -> x.classOf(none));
        // At t that is not there it ends, without a fault and so without a class.
        due(UNSUPPORTED, () -> type("r j:3 x1"));
        due(UNSUPPORTED, () -> type("r <9:15 x1"));
        due(4096 + 2 * 256 + 16, () -> type("r j:2 =0:4 x2 x1"));
    }
}
