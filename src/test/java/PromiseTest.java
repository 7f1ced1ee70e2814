/** For each promise of the document: ordinary inputs, the edges that the document names, and wrong inputs. */
public final class PromiseTest extends Checks {
    public static void main(String[] args) throws ReflectiveOperationException {
        for (int promise = 1; promise <= 65; promise++) {
            about = "promise " + promise;
            int before = checks;
            PromiseTest.class.getDeclaredMethod("promise" + promise).invoke(null);
            if (checks == before) {
                tellWrong("there is no test");
            }
        }
        end("65 promises");
    }

    static void promise1() {
        Shrinkery x = new Shrinkery();
        due(OUT, () -> x.kindOf(0));
        due(OUT, () -> x.faultOf(0));
        due(OUT, () -> x.holds(0));
        due(0, x::draws);
        due(0, x::erase);
        due(0, x::tested);
        due(0, x::discarded);
        due(0, x::corpus);
        due(0, x::classes);
        due(0, x::covered);
        due(0, x::apart);
        due(true, x::isSound);
        x.command(0, 5);
        x.command(0, 6);
        due(-1, () -> x.answer(1, true));
        due(-1, () -> x.answer(1, false));
        due(NONE, x::breaksAt);
    }

    static void promise2() {
        Shrinkery x = new Shrinkery();
        due(0, () -> x.number(0, 255));
        due(1, () -> x.number(7, 7));
        due(2, () -> x.number(250, 255));
        due("200", () -> made(x, 0, 200));
        due("7", () -> made(x, 1, 200));
        due("251", () -> made(x, 2, 7));
        due(IAE, () -> x.number(-1, 5));
        due(IAE, () -> x.number(5, 4));
        due(IAE, () -> x.number(0, 256));
        due(IAE, () -> x.number(256, 256));
        due(IAE, () -> x.number(LEAST, MOST));
        for (int i = 3; i < 16; i++) {
            x.number(0, i);
        }
        due(ISE, () -> x.number(0, 1));
        due(IAE, () -> x.number(1, 0));
        due('n', () -> x.kindOf(15));
    }

    private static Shrinkery twoNumbers() {
        Shrinkery x = new Shrinkery();
        x.number(0, 9);
        x.number(100, 109);
        return x;
    }

    private static Shrinkery full() {
        Shrinkery x = new Shrinkery();
        for (int i = 0; i < 16; i++) {
            x.number(0, i);
        }
        return x;
    }

    static void promise3() {
        Shrinkery x = twoNumbers();
        due(2, () -> x.choice(0, 1, 2));
        due("4", () -> made(x, 2, 0, 4));
        due("4", () -> made(x, 2, 4, 4));
        due("104", () -> made(x, 2, 5, 4));
        due("104", () -> made(x, 2, 254 - 254 % 3 + 2 - 3, 4));
        due(3, () -> x.choice(1, 1, 1));
        due(4, () -> x.choice(2, 0, 9));
        due("3", () -> made(x, 4, 9, 3));
        due(OUT, () -> x.choice(5, 0, 1));
        due(OUT, () -> x.choice(0, 5, 1));
        due(OUT, () -> x.choice(-1, 0, 0));
        due(IAE, () -> x.choice(0, 0, 0));
        due(IAE, () -> x.choice(0, 0, 10));
        Shrinkery full = full();
        due(ISE, () -> full.choice(0, 15, 9));
        due(IAE, () -> full.choice(0, 15, 10));
        due(OUT, () -> full.choice(0, 16, 10));
    }

    static void promise4() {
        Shrinkery x = twoNumbers();
        due(2, () -> x.list(0, 5));
        due("", () -> made(x, 2, 6, 1, 2, 3));
        due("1,2,3,0,0", () -> made(x, 2, 11, 1, 2, 3));
        due(3, () -> x.list(1, 0));
        due("", () -> made(x, 3, 255));
        due(4, () -> x.list(2, 8));
        due("1,2", () -> made(x, 4, 2, 1, 1, 1, 2));
        due(OUT, () -> x.list(5, 0));
        due(OUT, () -> x.list(-1, -1));
        due(IAE, () -> x.list(0, -1));
        due(IAE, () -> x.list(0, 9));
        Shrinkery full = full();
        due(ISE, () -> full.list(0, 8));
        due(IAE, () -> full.list(0, 9));
    }

    static void promise5() {
        Shrinkery x = twoNumbers();
        due(2, () -> x.pair(0, 1));
        due("4,105", () -> made(x, 2, 14, 15));
        due(3, () -> x.pair(2, 2));
        due("1,102,3,104", () -> made(x, 3, 1, 2, 3, 4));
        due(OUT, () -> x.pair(4, 0));
        due(OUT, () -> x.pair(0, 4));
        due(OUT, () -> x.pair(LEAST, 0));
        Shrinkery full = full();
        due(ISE, () -> full.pair(0, 0));
        due(OUT, () -> full.pair(0, 16));
    }

    static void promise6() {
        Shrinkery x = twoNumbers();
        due(2, () -> x.filter(0, 3, 2));
        due("5", () -> made(x, 2, 5));
        due("8", () -> made(x, 2, 1, 3, 8));
        due(3, x::draws);
        due(NONE, () -> made(x, 2, 1, 3, 4, 8));
        due("8", () -> values(x, 1));
        due(3, () -> x.list(0, 4));
        due(4, () -> x.filter(3, 9, 8));
        due("4,4", () -> made(x, 4, 1, 7, 2, 4, 4));
        due(OUT, () -> x.filter(5, 1, 0));
        due(OUT, () -> x.filter(-1, 2, 0));
        due(IAE, () -> x.filter(0, 1, 0));
        due(IAE, () -> x.filter(0, 10, 0));
        due(IAE, () -> x.filter(0, 4, 4));
        due(IAE, () -> x.filter(0, 4, -1));
        Shrinkery full = full();
        due(ISE, () -> full.filter(0, 2, 1));
        due(IAE, () -> full.filter(0, 2, 2));
    }

    static void promise7() {
        Shrinkery x = twoNumbers();
        due(2, () -> x.depends(0, 1));
        due("100,107", () -> made(x, 2, 6, 0, 7));
        due(3, x::draws);
        due("", () -> made(x, 2, 4, 5));
        due("101,102,103", () -> made(x, 2, 7, 1, 2, 3));
        due(3, () -> x.depends(2, 2));
        due(OUT, () -> x.depends(4, 0));
        due(OUT, () -> x.depends(0, 4));
        due(OUT, () -> x.depends(0, -1));
        Shrinkery full = full();
        due(ISE, () -> full.depends(0, 0));
        due(OUT, () -> full.depends(16, 0));
    }

    static void promise8() {
        Shrinkery x = twoNumbers();
        due(2, () -> x.tree(0, 0));
        due("7", () -> made(x, 2, 7, 8));
        due(3, () -> x.tree(0, 1));
        due("8", () -> made(x, 3, 3, 8));
        due("7,8", () -> made(x, 3, 4, 7, 8));
        due(4, () -> x.tree(0, 4));
        due("5,6,7", () -> made(x, 4, 1, 2, 0, 5, 0, 6, 3, 7));
        due(8, x::draws);
        due(5, () -> x.tree(4, 4));
        due(OUT, () -> x.tree(6, 0));
        due(OUT, () -> x.tree(-1, 5));
        due(IAE, () -> x.tree(0, 5));
        due(IAE, () -> x.tree(0, -1));
        Shrinkery full = full();
        due(ISE, () -> full.tree(0, 4));
        due(IAE, () -> full.tree(0, 5));
        Shrinkery deep = new Shrinkery();
        deep.number(5, 5);
        for (int i = 0; i < 15; i++) {
            deep.tree(i, 4);
        }
        due("5", () -> made(deep, 15));
        int[] ones = new int[60];
        java.util.Arrays.fill(ones, 1);
        due(NONE, () -> made(deep, 15, ones));
    }

    /** 0 becomes 0 10 0 or 11; 1 becomes 0 0; 2 becomes 3; 3 becomes 20 21. */
    private static Shrinkery grammar() {
        Shrinkery x = new Shrinkery();
        x.produce(0, 0, 10, 0, -1);
        x.produce(0, 11, -1, -1, -1);
        x.produce(1, 0, 0, -1, -1);
        x.produce(2, 3, -1, -1, -1);
        x.produce(3, 20, 21, -1, -1);
        return x;
    }

    static void promise9() {
        Shrinkery x = grammar();
        due(0, () -> x.word(0, 5));
        due("11,10,11,10,11", () -> made(x, 0, 0, 1));
        due(2, x::draws);
        due(1, () -> x.word(2, 2));
        due("20,21", () -> made(x, 1, 255, 255));
        due(2, () -> x.word(5, 12));
        due(NONE, () -> made(x, 2, 0, 0));
        x.produce(4, 50, -1, -1, -1);
        x.produce(4, 51, -1, -1, -1);
        x.produce(4, 52, -1, -1, -1);
        due(3, () -> x.word(4, 1));
        due("51", () -> made(x, 3, 1, 0));
        due("50", () -> made(x, 3, 1, 2));
        due(IAE, () -> x.word(-1, 1));
        due(IAE, () -> x.word(6, 1));
        due(IAE, () -> x.word(0, 0));
        due(IAE, () -> x.word(0, 13));
        Shrinkery full = full();
        due(ISE, () -> full.word(0, 12));
        due(IAE, () -> full.word(0, 13));
    }

    static void promise10() {
        Shrinkery x = twoNumbers();
        x.choice(0, 1, 1);
        x.list(0, 1);
        x.pair(0, 1);
        x.filter(0, 2, 1);
        x.depends(0, 1);
        x.tree(0, 1);
        x.word(0, 1);
        String kinds = "nnclpfdtg";
        for (int i = 0; i < 9; i++) {
            int at = i;
            due(kinds.charAt(i), () -> x.kindOf(at));
        }
        due(OUT, () -> x.kindOf(9));
        due(OUT, () -> x.kindOf(-1));
    }

    static void promise11() {
        Shrinkery x = new Shrinkery();
        x.number(0, 255);
        x.pair(0, 0);
        x.filter(0, 2, 0);
        due(2, () -> x.draw(1, 7));
        due(108, () -> x.value(0));
        due(drawOf(7, 2), () -> x.value(1));
        due(2, () -> x.draw(1, -1));
        due(drawOf(-1, 1), () -> x.value(0));
        due(drawOf(-1, 2), () -> x.value(1));
        due(OUT, () -> x.draw(3, 7));
        due(OUT, () -> x.draw(-1, 7));
        int odd = 0;
        while (drawOf(odd, 1) % 2 == 0 || drawOf(odd, 2) % 2 == 0 || drawOf(odd, 3) % 2 == 0) {
            odd++;
        }
        int seed = odd;
        due(NONE, () -> x.draw(2, seed));
        due(drawOf(-1, 2), () -> x.value(1));
    }

    static void promise12() {
        Shrinkery x = new Shrinkery();
        x.number(0, 255);
        due(1, () -> x.type(0));
        due(2, () -> x.type(255));
        due(IAE, () -> x.type(256));
        due(IAE, () -> x.type(-1));
        for (int i = 3; i <= 60; i++) {
            int count = i;
            due(count, () -> x.type(9));
        }
        due(ISE, () -> x.type(0));
        due(IAE, () -> x.type(256));
        due(60, x::erase);
    }

    static void promise13() {
        Shrinkery x = new Shrinkery();
        x.number(0, 255);
        due(0, x::erase);
        x.type(4);
        x.type(5);
        due(2, x::erase);
        due(0, x::erase);
        x.replay(0);
        due(0, () -> x.value(0));
    }

    static void promise14() {
        Shrinkery x = new Shrinkery();
        x.number(0, 255);
        x.list(0, 8);
        x.type(11);
        x.type(7);
        due(2, () -> x.replay(1));
        due("7,0", () -> values(x, 2));
        due(3, x::draws);
        due(1, () -> x.replay(0));
        due(11, () -> x.value(0));
        due(1, x::draws);
        due(2, () -> x.replay(1));
        due(OUT, () -> x.replay(2));
        due(OUT, () -> x.replay(-1));
        x.list(1, 8);
        x.list(2, 8);
        // Eight lists of four numbers are 41 draws and 32 values, with five numbers 49 draws and 40 values.
        due(32, () -> replayOfLists(x, 8, 4));
        due(40, () -> replayOfLists(x, 8, 5));
        due(49, x::draws);
        due(NONE, () -> replayOfLists(x, 8, 6));
        due(NONE, () -> replayOfLists(x, 7, 6));
        due(49, x::draws);
        x.depends(2, 0);
        // 1 + 8 * 7 draws are 57 and one to three more; with a further list they are over 60.
        due(2, () -> replayOfLists(x, 8, 6, 4, 1, 1));
        due(59, x::draws);
        due(NONE, () -> replayOfLists(x, 8, 7, 4, 1, 1));
    }

    private static int replayOfLists(Shrinkery x, int lists, int numbers) {
        return replayOfLists(x, lists, numbers, 2, 0, 0);
    }

    /** A row for so many lists of so many numbers, all 0 but for the last two. */
    private static int replayOfLists(Shrinkery x, int lists, int numbers, int generator, int one, int two) {
        x.erase();
        x.type(lists);
        for (int i = 0; i < lists; i++) {
            x.type(numbers);
            for (int j = 0; j < numbers && i * (numbers + 1) + j + 2 < 60; j++) {
                boolean isLast = i == lists - 1 && j >= numbers - 2;
                x.type(isLast ? j == numbers - 1 ? two : one : 0);
            }
        }
        return x.replay(generator);
    }

    static void promise15() {
        Shrinkery x = twoNumbers();
        due(OUT, () -> x.value(0));
        x.pair(0, 1);
        made(x, 2, 3, 4);
        due(3, () -> x.value(0));
        due(104, () -> x.value(1));
        due(OUT, () -> x.value(2));
        due(OUT, () -> x.value(-1));
        due(OUT, () -> x.value(MOST));
    }

    static void promise16() {
        Shrinkery x = twoNumbers();
        due(0, x::draws);
        x.pair(0, 1);
        x.draw(2, 1);
        due(2, x::draws);
        x.draw(0, 1);
        due(1, x::draws);
    }

    static void promise17() {
        Shrinkery x = twoNumbers();
        due(OUT, () -> x.drawAt(0));
        x.pair(0, 1);
        x.draw(2, 5);
        due(drawOf(5, 1), () -> x.drawAt(0));
        due(drawOf(5, 2), () -> x.drawAt(1));
        due(OUT, () -> x.drawAt(2));
        due(OUT, () -> x.drawAt(-1));
        made(x, 2, 250);
        due(250, () -> x.drawAt(0));
        due(0, () -> x.drawAt(1));
    }

    private static Shrinkery counted() {
        Shrinkery x = new Shrinkery();
        x.number(0, 2);      // 0: 3
        x.number(7, 8);      // 1: 2
        x.choice(0, 1, 9);   // 2: 5
        x.list(1, 3);        // 3: 1 + 2 + 4 + 8 = 15
        x.pair(2, 3);        // 4: 75
        x.tree(1, 0);        // 5: 2
        x.tree(1, 1);        // 6: 2 + 4 = 6
        x.tree(1, 2);        // 7: 2 + 36 = 38
        x.filter(0, 2, 0);   // 8
        x.depends(0, 1);     // 9
        x.word(0, 1);        // 10
        x.list(8, 0);        // 11
        return x;
    }

    static void promise18() {
        Shrinkery x = counted();
        long[] counts = {3, 2, 5, 15, 75, 2, 6, 38};
        for (int i = 0; i < counts.length; i++) {
            int at = i;
            due(counts[at], () -> x.inputs(at));
        }
        for (int i = 8; i < 12; i++) {
            int at = i;
            due(UNSUPPORTED, () -> x.inputs(at));
        }
        x.pair(0, 9);
        due(UNSUPPORTED, () -> x.inputs(12));
        x.choice(10, 0, 1);
        due(UNSUPPORTED, () -> x.inputs(13));
        due(OUT, () -> x.inputs(14));
        due(OUT, () -> x.inputs(-1));
        Shrinkery large = new Shrinkery();
        large.number(0, 255);
        large.list(0, 3);
        large.list(0, 4);
        large.tree(2, 4);
        large.pair(3, 3);
        large.number(0, 99);
        large.pair(5, 5);
        large.pair(6, 6);
        large.number(0, 9);
        large.pair(7, 8);
        due(16843009L, () -> large.inputs(1));
        for (int i = 2; i < 5; i++) {
            int at = i;
            due(1000000000L, () -> large.inputs(at));
        }
        due(100000000L, () -> large.inputs(7));
        due(1000000000L, () -> large.inputs(9));
    }

    /** All values of an input by its number, joined by commas. */
    private static Object numbered(Shrinkery x, int generator, int number) {
        int length = x.inputLength(generator, number);
        StringBuilder all = new StringBuilder();
        for (int i = 0; i < length; i++) {
            all.append(i == 0 ? "" : ",").append(x.inputAt(generator, number, i));
        }
        return all.toString();
    }

    static void promise19() {
        Shrinkery x = counted();
        due(1, () -> x.inputLength(0, 2));
        due(0, () -> x.inputLength(3, 0));
        due(1, () -> x.inputLength(3, 1));
        due(1, () -> x.inputLength(3, 2));
        due(2, () -> x.inputLength(3, 3));
        due(3, () -> x.inputLength(3, 14));
        due(NONE, () -> x.inputLength(3, 15));
        due(NONE, () -> x.inputLength(3, -1));
        due(NONE, () -> x.inputLength(0, 3));
        due(1, () -> x.inputLength(7, 1));
        due(2, () -> x.inputLength(7, 2));
        due(4, () -> x.inputLength(7, 37));
        due(UNSUPPORTED, () -> x.inputLength(8, 0));
        due(UNSUPPORTED, () -> x.inputLength(11, -1));
        due(OUT, () -> x.inputLength(12, 0));
        due(OUT, () -> x.inputLength(-1, 0));
        Shrinkery large = new Shrinkery();
        large.number(0, 0);
        for (int i = 0; i < 14; i++) {
            large.pair(i, i);
        }
        large.list(14, 8);
        due(1 << 14, () -> large.inputLength(14, 0));
        due(8 << 14, () -> large.inputLength(15, 8));
        Shrinkery lists = new Shrinkery();
        lists.number(0, 255);
        lists.list(0, 8);
        due(4, () -> lists.inputLength(1, 999999999));
        due(NONE, () -> lists.inputLength(1, 1000000000));
    }

    static void promise20() {
        Shrinkery x = counted();
        due("2", () -> numbered(x, 0, 2));
        due("8", () -> numbered(x, 1, 1));
        due("2", () -> numbered(x, 2, 2));
        due("7", () -> numbered(x, 2, 3));
        due("7,8", () -> numbered(x, 3, 4));
        due("8,7", () -> numbered(x, 3, 5));
        due("8,8,8", () -> numbered(x, 3, 14));
        due("0", () -> numbered(x, 4, 0));
        due("0,8,8,8", () -> numbered(x, 4, 14));
        due("1", () -> numbered(x, 4, 15));
        due("8,8,8,8", () -> numbered(x, 4, 74));
        due("8", () -> numbered(x, 5, 1));
        due("8,7", () -> numbered(x, 6, 4));
        due("7,8,8", () -> numbered(x, 7, 2 + 5));
        due("8,8,8,7", () -> numbered(x, 7, 2 + 5 * 6 + 4));
        due(NONE, () -> x.inputAt(3, 4, 2));
        due(NONE, () -> x.inputAt(3, 4, -1));
        due(NONE, () -> x.inputAt(3, 0, 0));
        due(NONE, () -> x.inputAt(3, 15, 0));
        due(NONE, () -> x.inputAt(3, LEAST, 0));
        due(UNSUPPORTED, () -> x.inputAt(9, 0, 0));
        due(OUT, () -> x.inputAt(12, 0, 0));
        Shrinkery lists = new Shrinkery();
        lists.number(0, 255);
        lists.list(0, 8);
        int number = 1 + 256 + 65536 + 16777216 + (3 << 24) + (1 << 16) + (4 << 8) + 250;
        due("3,1,4,250", () -> numbered(lists, 1, number));
    }

    static void promise21() {
        Shrinkery x = new Shrinkery();
        for (int i = 0; i < 6; i++) {
            int at = i;
            due(at, x::program);
        }
        due(ISE, x::program);
        due(1, () -> x.instruct(5, 'r', 0, 0));
    }

    static void promise22() {
        Shrinkery x = twoNumbers();
        x.program();
        due(OUT, () -> x.instruct(1, 'q', -1, -1));
        due(OUT, () -> x.instruct(-1, 'r', 0, 0));
        for (char kind : new char[] {'q', 0, 'R', 'y', '>', 'X', (char) 300}) {
            due(IAE, () -> x.instruct(0, kind, 0, 0));
        }
        for (char kind : new char[] {'+', '*', '%', '<', '=', 'x'}) {
            due(IAE, () -> x.instruct(0, kind, -1, 0));
            due(IAE, () -> x.instruct(0, kind, 256, 0));
        }
        for (char kind : new char[] {'<', '=', 'e', 'j'}) {
            due(IAE, () -> x.instruct(0, kind, 0, -1));
            due(IAE, () -> x.instruct(0, kind, 0, 16));
        }
        due(1, () -> x.instruct(0, 'r', LEAST, MOST));
        due(2, () -> x.instruct(0, '+', 255, 16));
        due(3, () -> x.instruct(0, '*', 0, -1));
        due(4, () -> x.instruct(0, '%', 255, MOST));
        due(5, () -> x.instruct(0, '<', 255, 15));
        due(6, () -> x.instruct(0, '=', 0, 0));
        due(7, () -> x.instruct(0, 'e', 256, 15));
        due(8, () -> x.instruct(0, 'j', -1, 0));
        due(9, () -> x.instruct(0, 'o', -1, 16));
        due(10, () -> x.instruct(0, 'x', 255, 16));
        for (int i = 11; i <= 16; i++) {
            int count = i;
            due(count, () -> x.instruct(0, 'r', 0, 0));
        }
        due(ISE, () -> x.instruct(0, 'r', 0, 0));
        due(IAE, () -> x.instruct(0, 'j', 0, 16));
    }

    /** A house with the input 3, 4, 0, by a generator of three numbers. */
    private static Shrinkery three() {
        Shrinkery x = new Shrinkery();
        x.number(0, 255);
        x.pair(0, 0);
        x.pair(0, 1);
        made(x, 2, 3, 4, 0);
        return x;
    }

    private static int fault(String text) {
        Shrinkery x = three();
        return x.faultOf(code(x, text));
    }

    private static int output(String text) {
        Shrinkery x = three();
        return x.output(code(x, text));
    }

    private static int type(String text) {
        Shrinkery x = three();
        return x.classOf(code(x, text));
    }

    static void promise23() {
        due(-1, () -> fault(""));
        due(-1, () -> fault("r"));
        due(0, () -> fault("x0"));
        due(255, () -> fault("r x255 x1"));
        due(256, () -> fault("j:0"));
        due(-1, () -> fault("j:9 x1"));
        due(-1, () -> fault("r =3:15 x1"));
        due(1, () -> fault("r =4:3 x1 x2"));
        due(2, () -> fault("r =3:3 x1 x2"));
        due(1, () -> fault("r <3:3 x1 x2"));
        due(2, () -> fault("r <4:3 x1 x2"));
        // The input is over behind the third value, though it is 0, and what is read then is 0.
        due(2, () -> fault("r r e:4 r e:6 x1 x2"));
        due(1, () -> fault("r r e:4 x1 x2"));
        due(2, () -> fault("r r r r r =7:7 x1 x2"));
        // Each turn is two instructions: 200 are over with the fault, unless the 200th one is the last one.
        due(256, () -> fault("+1 <100:0 x1"));
        due(-1, () -> fault("+1 <100:0"));
        due(256, () -> fault("+1 <101:0"));
        due(1, () -> fault("r x1"));
        due(1, () -> fault("+1 <99:0 x1"));
        Shrinkery x = new Shrinkery();
        due(OUT, () -> x.faultOf(0));
        x.program();
        due(NONE, () -> x.faultOf(0));
        due(OUT, () -> x.faultOf(-1));
        due(OUT, () -> x.faultOf(1));
    }

    static void promise24() {
        due(0, () -> output("r"));
        due(3, () -> output("r o"));
        due(31 * 3 + 7, () -> output("r o r o"));
        due(3, () -> output("r o x5 o"));
        due(13, () -> output("r +10 o"));
        due(30, () -> output("r *10 o"));
        due(1, () -> output("r r %2 o"));
        due(0, () -> output("r r %0 o"));
        int large = 3 * 255 * 255 * 255 * 255;
        due(large, () -> output("r *255 *255 *255 *255 o"));
        // 255 to the power of 4 is below 0 as an int that wraps; what is left of it is not.
        due(Math.floorMod(255 * 255 * 255 * 255, 100), () -> output("+255 *255 *255 *255 %99 o"));
        due(true, () -> 255 * 255 * 255 * 255 < 0 && 255 * 255 * 255 * 255 % 100 != 0);
        Shrinkery x = new Shrinkery();
        due(OUT, () -> x.output(0));
        x.program();
        due(NONE, () -> x.output(0));
    }

    static void promise25() {
        due(0, () -> type("x0"));
        due(5 * 4096, () -> type("r <3:3 x5"));
        due(5 * 4096 + 256, () -> type("r <4:3 x6 x5"));
        due(5 * 4096 + 3 * 256 + 16, () -> type("r j:2 e:4 =3:4 x5"));
        due(7 * 4096 + 4 * 256 + 3 * 16 + 2, () -> type("r j:2 =3:3 j:4 <9:5 x7"));
        due(7 * 4096 + 5 * 256 + 4 * 16 + 3, () -> type("r j:2 =3:3 j:4 <9:5 j:6 x7"));
        due(7 * 4096 + 3 * 256, () -> type("r r r e:5 x1 x7"));
        due(256 * 4096, () -> type("j:0"));
        due(256 * 4096 + 256 + 16 + 1, () -> type("r j:0"));
        Shrinkery x = three();
        int none = code(x, "r");
        due(UNSUPPORTED, () -> x.classOf(none));
        due(OUT, () -> x.classOf(1));
        Shrinkery empty = new Shrinkery();
        empty.program();
        due(NONE, () -> empty.classOf(0));
    }

    private static int edges(String text) {
        Shrinkery x = three();
        return x.edges(code(x, text));
    }

    static void promise26() {
        due(0, () -> edges(""));
        due(1, () -> edges("r"));
        due(0, () -> edges("x1"));
        due(2, () -> edges("r r x1"));
        due(1, () -> edges("j:0"));
        due(4, () -> edges("r e:3 j:0"));
        due(2, () -> edges("r j:15"));
        Shrinkery x = new Shrinkery();
        due(OUT, () -> x.edges(0));
        x.program();
        due(NONE, () -> x.edges(0));
    }

    private static int level(String text, int from, int to) {
        Shrinkery x = three();
        return x.level(code(x, text), from, to);
    }

    static void promise27() {
        due(1, () -> level("r r", 0, 1));
        due(1, () -> level("r r", 1, 16));
        due(0, () -> level("r r", 0, 16));
        due(1, () -> level("r j:15 r", 1, 16));
        due(0, () -> level("r j:15 r", 1, 15));
        int[] levels = {1, 2, 3, 4, 4, 4, 4, 5, 5};
        for (int times = 1; times <= 9; times++) {
            int often = times;
            due(levels[often - 1], () -> level("+1 <" + often + ":0", 0, 1));
        }
        due(5, () -> level("j:0", 0, 0));
        // The 200th instruction has an edge, whether it leads to the end or not.
        due(1, () -> level("+1 <100:0", 1, 16));
        due(1, () -> level("+1 <100:0 r", 1, 2));
        due(0, () -> level("+1 <100:0 r", 2, 16));
        Shrinkery x = three();
        int program = code(x, "r");
        due(IAE, () -> x.level(program, -1, 0));
        due(IAE, () -> x.level(program, 16, 0));
        due(IAE, () -> x.level(program, 0, -1));
        due(IAE, () -> x.level(program, 0, 17));
        due(0, () -> x.level(program, 15, 15));
        due(OUT, () -> x.level(1, 16, 17));
        Shrinkery empty = new Shrinkery();
        empty.program();
        due(IAE, () -> empty.level(0, 0, 17));
        due(NONE, () -> empty.level(0, 15, 16));
    }

    static void promise28() {
        Shrinkery x = three();
        code(x, "r");
        due(0, () -> x.property('s', 0, LEAST));
        due(1, () -> x.property('s', 10000, 0));
        due(2, () -> x.property('o', LEAST, MOST));
        due(3, () -> x.property('u', MOST, LEAST));
        due(4, () -> x.property('p', 0, 99));
        due(5, () -> x.property('d', 0, 0));
        due(IAE, () -> x.property('x', 0, 0));
        due(IAE, () -> x.property('S', 0, 0));
        due(IAE, () -> x.property('s', 10001, 0));
        due(IAE, () -> x.property('s', -1, 0));
        due(IAE, () -> x.property('p', 1, 0));
        due(IAE, () -> x.property('p', -1, 0));
        due(IAE, () -> x.property('d', 1, 0));
        due(IAE, () -> x.property('d', 0, 1));
        due(IAE, () -> x.property('d', 0, -1));
        x.property('o', 0, 0);
        due(7, () -> x.property('o', 0, 0));
        due(ISE, () -> x.property('o', 0, 0));
        due(IAE, () -> x.property('p', 1, 0));
    }

    static void promise29() {
        Shrinkery x = three();
        x.property('s', 0, 0);
        due(10, () -> x.require(0, 3, 2));
        due(32, () -> x.require(0, 9, 8));
        due(98, () -> x.require(0, 1, 0));
        due(IAE, () -> x.require(0, 0, 0));
        due(IAE, () -> x.require(0, 10, 0));
        due(IAE, () -> x.require(0, 3, 3));
        due(IAE, () -> x.require(0, 3, -1));
        due(OUT, () -> x.require(1, 0, 0));
        due(OUT, () -> x.require(-1, 1, 0));
        due(10, () -> x.require(0, 1, 0));
    }

    static void promise30() {
        Shrinkery x = three();
        code(x, "r o");
        code(x, "r r x1");
        code(x, "r +4 %6 o");
        code(x, "x1");
        code(x, "x2");
        code(x, "r +7 %6 o");
        x.property('s', 7, 0);
        x.property('s', 6, 0);
        x.property('u', 0, 0);
        x.property('o', 0, 0);
        due(true, () -> x.holds(0));
        due(false, () -> x.holds(1));
        due(true, () -> x.holds(2));
        due(false, () -> x.holds(3));
        x.require(0, 9, 1);
        due(true, () -> x.holds(0));
        made(x, 2, 3, 3, 4);
        due(false, () -> x.holds(2));
        due(true, () -> x.holds(3));
        due(OUT, () -> x.holds(4));
        due(OUT, () -> x.holds(-1));
        x.property('p', 0, 0);
        x.property('p', 1, 0);
        due(true, () -> x.holds(4));
        due(false, () -> x.holds(5));
        int[][] pairs = {{0, 5, 1}, {0, 2, 0}, {0, 1, 0}, {1, 0, 0}, {1, 3, 1}, {3, 4, 0}, {1, 1, 1}, {2, 2, 1}};
        for (int[] pair : pairs) {
            due(pair[2] == 1, () -> holdsOfTwo(pair[0], pair[1]));
        }
        Shrinkery empty = new Shrinkery();
        due(OUT, () -> empty.holds(0));
        empty.property('o', 0, 0);
        due(NONE, () -> empty.holds(0));
    }

    private static boolean holdsOfTwo(int first, int second) {
        Shrinkery x = three();
        String[] codes = {"r o", "r r x1", "r +4 %6 o", "x1", "x2", "r +7 %6 o"};
        for (String one : codes) {
            code(x, one);
        }
        return x.holds(x.property('d', first, second));
    }

    static void promise31() {
        Shrinkery x = new Shrinkery();
        x.number(0, 255);
        x.filter(0, 2, 0);
        x.property('s', 255, 0);
        x.property('s', 0, 0);
        due('o', () -> x.run(0, 0, 1, 100, 0));
        due(NONE, x::failureClass);
        due('b', () -> x.run(1, 0, 5, 1, 0));
        due("" + drawOf(5, 1), () -> failure(x, true));
        due("" + drawOf(5, 1), () -> failure(x, false));
        due(0, x::failureClass);
        // What breaks is the first input that is good to be judged: that of the seed 5, or of one more.
        x.require(1, 2, 1 - drawOf(5, 1) % 2);
        int next = 6;
        while (drawOf(next, 1) % 2 == drawOf(5, 1) % 2) {
            next++;
        }
        int seed = next;
        due('g', () -> x.run(1, 0, 5, 1, seed - 6));
        due(seed - 5, x::discarded);
        due("" + drawOf(5, 1), () -> failure(x, true));
        due('b', () -> x.run(1, 0, 5, 1, seed - 5));
        due(seed - 5, x::discarded);
        due("" + drawOf(seed, 1), () -> failure(x, true));
        due('o', () -> x.run(0, 1, MOST, 100, 100));
        due("" + drawOf(seed, 1), () -> failure(x, true));
        due(OUT, () -> x.run(2, 0, 0, 0, 0));
        due(OUT, () -> x.run(0, 2, 0, 0, 0));
        due(OUT, () -> x.run(-1, 0, 0, 1, 0));
        due(IAE, () -> x.run(0, 0, 0, 0, 0));
        due(IAE, () -> x.run(0, 0, 0, 101, 0));
        due(IAE, () -> x.run(0, 0, 0, 1, -1));
        due(IAE, () -> x.run(0, 0, 0, 1, 101));
        code(x, "x7");
        code(x, "x8");
        code(x, "r o");
        code(x, "o");
        x.property('p', 0, 0);
        x.property('d', 0, 1);
        x.property('d', 0, 2);
        x.property('d', 3, 2);
        int[] types = {7 * 4096, 3, 2, 1};
        for (int i = 0; i < 4; i++) {
            int at = i;
            due('b', () -> x.run(2 + at, 0, 1, 1, 0));
            due(types[at], x::failureClass);
        }
    }

    static void promise32() {
        Shrinkery x = new Shrinkery();
        due(0, x::tested);
        x.number(0, 255);
        x.property('s', 255, 0);
        x.property('s', 0, 0);
        x.run(0, 0, 1, 37, 0);
        due(37, x::tested);
        x.run(1, 0, 5, 3, 0);
        due(0, x::tested);
        x.require(0, 9, 8);
        x.run(0, 0, 1, 100, 0);
        due(true, () -> x.tested() < 100);
    }

    static void promise33() {
        Shrinkery x = new Shrinkery();
        due(0, x::discarded);
        x.word(0, 1);
        x.number(0, 0);
        x.property('s', 255, 0);
        due('g', () -> x.run(0, 0, 1, 100, 9));
        due(10, x::discarded);
        due('o', () -> x.run(0, 1, 1, 5, 9));
        due(0, x::discarded);
        x.require(0, 2, 1);
        due('g', () -> x.run(0, 1, 1, 5, 0));
        due(1, x::discarded);
        due(0, x::tested);
    }

    static void promise34() {
        Shrinkery x = new Shrinkery();
        due(0, () -> x.label(0));
        x.number(0, 255);
        x.list(0, 0);
        x.pair(0, 0);
        x.pair(2, 0);
        x.pair(2, 2);
        x.property('s', 10000, 0);
        int[] generators = {1, 0, 2, 3, 4};
        int[] labels = {0, 1, 2, 2, 3};
        for (int i = 0; i < 5; i++) {
            x.run(0, generators[i], 1, 10 + i, 0);
            for (int which = 0; which < 4; which++) {
                int label = which;
                due(which == labels[i] ? 10 + i : 0, () -> x.label(label));
            }
        }
        due(IAE, () -> x.label(4));
        due(IAE, () -> x.label(-1));
        x.property('s', 0, 0);
        x.run(1, 4, 1, 10, 0);
        due(0, () -> x.label(3));
    }

    static void promise35() {
        Shrinkery x = new Shrinkery();
        due(ARITHMETIC, x::unseen);
        x.number(7, 7);
        x.number(0, 255);
        x.property('s', 255, 0);
        x.run(0, 0, 1, 1, 0);
        due(1.0, x::unseen);
        x.run(0, 0, 1, 2, 0);
        due(0.0, x::unseen);
        int once = 0;
        for (int i = 1; i <= 60; i++) {
            int times = 0;
            for (int j = 1; j <= 60; j++) {
                times += drawOf(i, 1) == drawOf(j, 1) ? 1 : 0;
            }
            once += times == 1 ? 1 : 0;
        }
        x.run(0, 1, 1, 60, 0);
        due((double) once / 60.0, x::unseen);
        // The input that breaks counts too, discarded ones do not.
        x.property('s', 0, 0);
        x.run(1, 0, 1, 9, 0);
        due(1.0, x::unseen);
        x.require(0, 2, 0);
        x.run(0, 0, 1, 9, 9);
        due(ARITHMETIC, x::unseen);
    }

    /** A failure of two draws, of a pair whose sum is above k, and of a rest by m. */
    private static Shrinkery failed(int first, int second, int k, int m, int rest) {
        Shrinkery x = new Shrinkery();
        x.number(0, 255);
        x.pair(0, 0);
        x.property('s', k, 0);
        x.require(0, m, rest);
        due('b', () -> x.run(0, 1, seedOf(first, second), 1, 0));
        due(first + "," + second, () -> failure(x, true));
        return x;
    }

    static void promise36() {
        Shrinkery x = new Shrinkery();
        due(NONE, () -> x.shrink(1));
        due(IAE, () -> x.shrink(0));
        due(IAE, () -> x.shrink(401));
        x.number(0, 255);
        x.list(0, 8);
        x.property('s', 20, 0);
        due('b', () -> x.run(0, 1, seedOf(5, 250), 1, 0));
        due(2, () -> x.shrink(400));
        due("1,21", () -> failure(x, true));
        due("21", () -> failure(x, false));
        due(0, x::failureClass);
        due(2, () -> x.shrink(400));
        due("1,21", () -> failure(x, true));
        // One number: without it, its 0, half of it, one less; each candidate that does not break is counted too.
        Shrinkery one = new Shrinkery();
        one.number(0, 255);
        one.property('s', 20, 0);
        one.run(0, 0, seedOf(201, 0), 1, 0);
        String[] rows = {"201", "201", "100", "100", "100", "50", "50", "50", "25", "25", "25", "25", "24"};
        for (int i = 1; i <= rows.length; i++) {
            Shrinkery again = new Shrinkery();
            again.number(0, 255);
            again.property('s', 20, 0);
            again.run(0, 0, seedOf(201, 0), 1, 0);
            int tries = i;
            due(1, () -> again.shrink(tries));
            due(rows[i - 1], () -> failure(again, true));
        }
        due(1, () -> one.shrink(400));
        due("21", () -> failure(one, true));
        // The rest by 2 is kept: nine candidates are left out before both are 1 less, which is the tenth one.
        Shrinkery lower = failed(1, 5, 3, 2, 0);
        lower.shrink(9);
        due("1,5", () -> failure(lower, true));
        Shrinkery less = failed(1, 5, 3, 2, 0);
        less.shrink(10);
        due("0,4", () -> failure(less, true));
        less.shrink(400);
        due("0,4", () -> failure(less, true));
        // The rest by 9 is kept by the exchange alone, which is the tenth one.
        Shrinkery unlike = failed(200, 100, 0, 9, 3);
        unlike.shrink(9);
        due("200,100", () -> failure(unlike, true));
        unlike.shrink(10);
        due("100,200", () -> failure(unlike, true));
        unlike.shrink(400);
        due("100,200", () -> failure(unlike, true));
        // What breaks otherwise is no candidate: a less row has another class.
        Shrinkery typed = new Shrinkery();
        typed.number(0, 255);
        code(typed, "r <100:3 x1 x2");
        typed.property('p', 0, 0);
        typed.run(0, 0, seedOf(200, 0), 1, 0);
        typed.shrink(400);
        due("100", () -> failure(typed, true));
        due(4096, typed::failureClass);
        // Eight draws go first: the list stays as long, and all draws behind its own are 0; then it gets shorter.
        Shrinkery many = new Shrinkery();
        many.number(1, 1);
        many.list(0, 8);
        many.property('s', 0, 0);
        many.run(0, 1, seedOf(8, 8), 1, 0);
        due(9, () -> failure(many, true).split(",").length);
        due(9, () -> many.shrink(1));
        due("8,0,0,0,0,0,0,0,0", () -> failure(many, true));
        due(9, () -> many.shrink(9));
        due(2, () -> many.shrink(400));
    }

    static void promise37() {
        Shrinkery x = new Shrinkery();
        due(NONE, x::failureClass);
        x.number(0, 255);
        code(x, "j:1 x9");
        x.property('p', 0, 0);
        x.property('o', 0, 0);
        x.run(0, 0, 1, 1, 0);
        due(9 * 4096, x::failureClass);
        x.shrink(400);
        due(9 * 4096, x::failureClass);
        x.run(1, 0, 1, 1, 0);
        due(9 * 4096, x::failureClass);
    }

    private static Shrinkery broken() {
        Shrinkery x = new Shrinkery();
        x.number(10, 19);
        x.pair(0, 0);
        x.property('s', 0, 0);
        x.run(0, 1, 4, 1, 0);
        return x;
    }

    static void promise38() {
        Shrinkery none = new Shrinkery();
        due(NONE, () -> none.failureDraw(-1));
        Shrinkery x = broken();
        due(drawOf(4, 1), () -> x.failureDraw(0));
        due(drawOf(4, 2), () -> x.failureDraw(1));
        due(OUT, () -> x.failureDraw(2));
        due(OUT, () -> x.failureDraw(-1));
        x.shrink(400);
        due(0, () -> x.failureDraw(1));
        due(OUT, () -> x.failureDraw(2));
    }

    static void promise39() {
        Shrinkery none = new Shrinkery();
        due(NONE, () -> none.failureValue(-1));
        Shrinkery x = broken();
        due(10 + drawOf(4, 1) % 10, () -> x.failureValue(0));
        due(10 + drawOf(4, 2) % 10, () -> x.failureValue(1));
        due(OUT, () -> x.failureValue(2));
        due(OUT, () -> x.failureValue(-1));
        x.shrink(400);
        due(10, () -> x.failureValue(0));
        due(10, () -> x.failureValue(1));
        // The input stays out of it.
        x.draw(0, 1);
        due(10, () -> x.failureValue(0));
    }

    static void promise40() {
        Shrinkery none = new Shrinkery();
        due(NONE, none::isReplayed);
        Shrinkery x = broken();
        due(true, x::isReplayed);
        x.require(0, 2, 1 - (x.failureValue(0) + x.failureValue(1)) % 2);
        due(false, x::isReplayed);
        x.require(0, 1, 0);
        due(true, x::isReplayed);
        Shrinkery program = new Shrinkery();
        program.number(0, 255);
        code(program, "j:1");
        code(program, "r o");
        program.property('d', 0, 1);
        program.run(0, 0, 4, 1, 0);
        due(1, program::failureClass);
        due(true, program::isReplayed);
        program.instruct(0, 'x', 1, 0);
        due(false, program::isReplayed);
        Shrinkery words = new Shrinkery();
        words.word(0, 1);
        words.produce(0, 10, -1, -1, -1);
        words.property('s', 9, 0);
        words.run(0, 0, 1, 1, 0);
        due(true, words::isReplayed);
        due("10", () -> failure(words, false));
    }

    private static Shrinkery searched(int rounds) {
        Shrinkery x = new Shrinkery();
        x.number(0, 255);
        x.list(0, 5);
        code(x, "r <50:5 =77:6 e:7 j:0 x1 x2");
        x.search(0, 1, 3, rounds);
        return x;
    }

    static void promise41() {
        Shrinkery x = searched(0);
        due(1, x::corpus);
        due(OUT, () -> x.search(1, 0, 0, 0));
        due(OUT, () -> x.search(0, 2, 0, -1));
        due(OUT, () -> x.search(-1, 0, 0, 0));
        due(IAE, () -> x.search(0, 0, 0, -1));
        due(IAE, () -> x.search(0, 0, 0, 101));
        due(1, x::corpus);
        x.word(0, 1);
        due(0, () -> x.search(0, 2, 0, 100));
        due(0, x::covered);
        due(true, () -> x.search(0, 1, 3, 100) > 1);
        // Rows of 60 draws, 32 of them for values that are dropped: no number is put into them.
        Shrinkery full = new Shrinkery();
        full.number(0, 0);
        int[][] pairs = {{0, 0}, {1, 1}, {2, 2}, {3, 3}, {4, 4}};
        for (int[] both : pairs) {
            full.pair(both[0], both[1]);
        }
        full.depends(5, 0);
        full.pair(4, 3);
        full.pair(7, 2);
        full.pair(6, 8);
        code(full, "r");
        due(28, () -> full.draw(9, 1));
        due(60, full::draws);
        due(1, () -> full.search(0, 9, 1, 100));
        due(drawOf(1, 60), () -> full.corpusDraw(0, 59));
        due(OUT, () -> full.corpusDraw(0, 60));
        // A round of its own: the first one changes the row of the seed by the first three numbers of the seed.
        for (int seed = 0; seed < 40; seed++) {
            due(firstRound(seed), oneRound(seed));
        }
    }

    /** The corpus behind a round, for a generator of one draw and a program that tells all its values apart. */
    private static Call oneRound(int seed) {
        return () -> {
            Shrinkery x = new Shrinkery();
            x.number(0, 255);
            code(x, "r <64:12 <128:13 <192:14 =250:11 j:15 x0 x1 x2 x3 x4 x5 x6 x7 x8 x9");
            int rows = x.search(0, 0, seed, 1);
            return rows == 1 ? "" + x.corpusDraw(0, 0) : x.corpusDraw(0, 0) + " " + x.corpusDraw(1, 0);
        };
    }

    private static String firstRound(int seed) {
        int draw = drawOf(seed, 1);
        int third = drawOf(seed, 3);
        int second = drawOf(seed, 2);
        int[] compared = {64, 128, 192, 250};
        int changed;
        switch (draw % 4) {
            case 0:
                changed = third;
                break;
            case 1:
                changed = second % 2 == 0 ? third : draw;
                break;
            case 2:
                changed = draw;
                break;
            default:
                changed = compared[third % 4];
                break;
        }
        boolean isNew = reach(changed) != reach(draw);
        return isNew ? draw + " " + changed : "" + draw;
    }

    private static int reach(int value) {
        return value == 250 ? 4 : value / 64;
    }

    static void promise42() {
        due(0, () -> new Shrinkery().corpus());
        due(1, () -> searched(0).corpus());
        Shrinkery x = searched(100);
        due(true, () -> x.corpus() > 1 && x.corpus() <= 20);
        Shrinkery full = new Shrinkery();
        full.number(0, 255);
        full.list(0, 7);
        code(full, "r e:15 <28:0 <56:0 <84:0 <112:0 <140:0 <168:0 <196:0 <224:0 j:0");
        due(20, () -> full.search(0, 1, 19, 100));
        due(20, full::corpus);
        due(OUT, () -> full.corpusDraw(20, 0));
    }

    static void promise43() {
        due(OUT, () -> new Shrinkery().corpusDraw(0, 0));
        Shrinkery x = searched(0);
        due(drawOf(3, 1), () -> x.corpusDraw(0, 0));
        int length = drawOf(3, 1) % 6 + 1;
        due(drawOf(3, length), () -> x.corpusDraw(0, length - 1));
        due(OUT, () -> x.corpusDraw(0, length));
        due(OUT, () -> x.corpusDraw(0, -1));
        due(OUT, () -> x.corpusDraw(1, 0));
        due(OUT, () -> x.corpusDraw(-1, 0));
    }

    static void promise44() {
        due(OUT, () -> new Shrinkery().energy(0));
        Shrinkery x = new Shrinkery();
        x.number(0, 255);
        code(x, "r r r");
        // Three edges of one row are worth 60 each; the same edges again put nothing behind it.
        x.search(0, 0, 1, 0);
        due(180, () -> x.energy(0));
        x.search(0, 0, 1, 7);
        due(1, x::corpus);
        due(110, () -> x.energy(0));
        due(OUT, () -> x.energy(1));
        due(OUT, () -> x.energy(-1));
        code(x, "");
        x.search(1, 0, 1, 3);
        due(-30, () -> x.energy(0));
        // Two rows that share the first edge: 60 / 2 + 60 each.
        Shrinkery two = new Shrinkery();
        two.number(0, 255);
        code(two, "r <128:3 x1 x2");
        int rounds = 0;
        while (two.search(0, 0, 1, rounds) < 2) {
            rounds++;
        }
        int chosen = rounds;
        due(90 - 10 * chosen, () -> two.energy(0));
        due(90, () -> two.energy(1));
        two.search(0, 0, 1, chosen + 1);
        due(80, () -> two.energy(1));
    }

    static void promise45() {
        due(0, () -> new Shrinkery().classes());
        Shrinkery x = new Shrinkery();
        x.number(0, 255);
        code(x, "r");
        code(x, "x1");
        x.search(0, 0, 1, 50);
        due(0, x::classes);
        x.search(1, 0, 1, 0);
        due(1, x::classes);
        x.search(1, 0, 1, 50);
        due(1, x::classes);
        // More than ten classes, by the last three jumps.
        Shrinkery many = new Shrinkery();
        many.number(0, 255);
        many.list(0, 3);
        code(many, "r e:9 <50:0 <100:0 <150:0 <200:0 j:0 x0 x1 <60:8 <120:7 x4");
        many.search(0, 1, 24, 100);
        due(10, many::classes);
        due(OUT, () -> many.foundClass(10));
        due(true, many::isSound);
    }

    static void promise46() {
        due(OUT, () -> new Shrinkery().foundClass(0));
        Shrinkery x = new Shrinkery();
        x.number(0, 255);
        code(x, "r <128:3 x1 x2");
        int small = drawOf(1, 1) < 128 ? 2 * 4096 + 256 : 4096;
        x.search(0, 0, 1, 100);
        due(2, x::classes);
        due(small, () -> x.foundClass(0));
        due(3 * 4096 + 256 - small, () -> x.foundClass(1));
        due(OUT, () -> x.foundClass(2));
        due(OUT, () -> x.foundClass(-1));
    }

    static void promise47() {
        due(OUT, () -> new Shrinkery().leastLength(0));
        Shrinkery x = new Shrinkery();
        x.number(0, 255);
        x.list(0, 8);
        code(x, "x1");
        x.search(0, 1, 2, 0);
        int length = drawOf(2, 1) % 9 + 1;
        due(length, () -> x.leastLength(0));
        x.search(0, 1, 2, 100);
        due(true, () -> x.leastLength(0) < length || length == 1);
        due(OUT, () -> x.leastLength(1));
        due(OUT, () -> x.leastLength(-1));
    }

    static void promise48() {
        due(0, () -> new Shrinkery().covered());
        Shrinkery x = new Shrinkery();
        x.number(0, 255);
        code(x, "r r r");
        code(x, "r <128:3 x1 x2");
        code(x, "");
        x.search(0, 0, 1, 100);
        due(3, x::covered);
        x.search(1, 0, 1, 100);
        due(3, x::covered);
        x.search(2, 0, 1, 100);
        due(0, x::covered);
        // A loop of as many turns as there are values: each edge with each of its levels counts.
        x.list(0, 8);
        code(x, "e:15 r j:0");
        x.search(3, 1, 1, 100);
        due(true, () -> x.covered() > 4 && x.covered() <= 1 + 3 * 5);
    }

    static void promise49() {
        Shrinkery x = new Shrinkery();
        due(0, () -> x.queue(4, 3));
        x.command(1, 0);
        x.command(2, 0);
        due(IAE, () -> x.queue(0, 0));
        due(IAE, () -> x.queue(5, 0));
        due(IAE, () -> x.queue(1, -1));
        due(IAE, () -> x.queue(1, 4));
        due(2, () -> x.queue(1, 0));
        due(0, () -> x.queue(1, 0));
        due(OUT, () -> x.answer(0, true));
    }

    static void promise50() {
        Shrinkery x = new Shrinkery();
        due(IAE, () -> x.command(3, 0));
        due(0, () -> x.command(0, 99));
        due(1, () -> x.command(3, 0));
        due(2, () -> x.command(1, LEAST));
        due(3, () -> x.command(2, MOST));
        due(IAE, () -> x.command(3, 4));
        due(IAE, () -> x.command(3, -1));
        due(IAE, () -> x.command(0, 100));
        due(IAE, () -> x.command(0, -1));
        due(IAE, () -> x.command(4, 0));
        due(IAE, () -> x.command(-1, 0));
        for (int i = 4; i < 20; i++) {
            int at = i;
            due(at, () -> x.command(3, at - 1));
        }
        due(ISE, () -> x.command(1, 0));
        due(IAE, () -> x.command(4, 0));
    }

    /** Commands as kind and number in turn. */
    private static Shrinkery queued(int room, int defect, int... commands) {
        Shrinkery x = new Shrinkery();
        x.queue(room, defect);
        for (int i = 0; i < commands.length; i += 2) {
            x.command(commands[i], commands[i + 1]);
        }
        return x;
    }

    private static String answers(Shrinkery x, boolean ofModel) {
        StringBuilder all = new StringBuilder();
        try {
            for (int i = 0; i < 20; i++) {
                all.append(x.answer(i, ofModel)).append(' ');
            }
        } catch (IndexOutOfBoundsException e) {
            return all.toString();
        }
        return all.toString();
    }

    static void promise51() {
        int[] commands = {1, 0, 0, 7, 0, 8, 2, 0, 0, 9, 1, 0, 3, 5, 1, 0, 1, 0, 1, 0};
        String good = "-1 0 0 2 -1 7 0 8 7 -1 ";
        String[] bad = {good, "-1 0 0 0 -1 7 0 8 7 -1 ", "-1 0 0 2 -1 8 0 8 7 -1 ", "-1 0 0 2 0 9 0 8 9 -1 "};
        for (int i = 0; i < 4; i++) {
            Shrinkery x = queued(2, i, commands);
            String due = bad[i];
            due(good, () -> answers(x, true));
            due(due, () -> answers(x, false));
            due(OUT, () -> x.answer(10, true));
            due(OUT, () -> x.answer(-1, false));
        }
        // An answer below 0 is put as 0; a room of 1 is full with one.
        Shrinkery low = queued(1, 3, 1, 0, 3, 0, 0, 5, 1, 0);
        due("-1 0 -1 0 ", () -> answers(low, true));
        due("-1 0 0 5 ", () -> answers(low, false));
        due(OUT, () -> new Shrinkery().answer(0, true));
    }

    static void promise52() {
        due(NONE, () -> new Shrinkery().breaksAt());
        due(NONE, () -> queued(2, 0, 0, 1, 0, 2, 2, 0, 1, 0).breaksAt());
        due(2, () -> queued(2, 1, 0, 1, 0, 2, 2, 0, 1, 0).breaksAt());
        due(3, () -> queued(2, 2, 0, 1, 0, 2, 2, 0, 1, 0).breaksAt());
        due(NONE, () -> queued(2, 2, 0, 1, 0, 1, 2, 0, 1, 0).breaksAt());
        due(2, () -> queued(2, 3, 0, 1, 0, 2, 0, 3).breaksAt());
        due(NONE, () -> queued(1, 2, 0, 1, 1, 0).breaksAt());
        due(NONE, () -> queued(4, 1, 0, 1, 0, 2, 0, 3, 2, 0).breaksAt());
        due(4, () -> queued(4, 1, 0, 1, 0, 2, 0, 3, 0, 4, 2, 0).breaksAt());
    }

    static void promise53() {
        due(NONE, () -> new Shrinkery().makeSmall());
        due(NONE, () -> queued(2, 0, 0, 1).makeSmall());
        Shrinkery x = queued(2, 1, 2, 0, 0, 1, 1, 0, 3, 2, 3, 3, 2, 0, 1, 0);
        due(true, () -> x.breaksAt() == 5);
        // What is left is a take that answers -1, two puts that name it, as 0, and the size 2.
        due(4, x::makeSmall);
        due(3, x::breaksAt);
        int[] left = {1, 0, 3, 0, 3, 1, 2, 0};
        for (int i = 0; i < 8; i++) {
            int at = i;
            due(left[at], () -> x.commandAt(at / 2, at % 2 == 0));
        }
        due(4, x::makeSmall);
        due(4, () -> x.command(2, 0));
        // A command goes with all that name it: what is left names what it named, by its new number.
        Shrinkery names = queued(1, 3, 1, 0, 0, 5, 3, 1, 3, 2);
        due(2, names::makeSmall);
        Shrinkery kept = queued(2, 2, 1, 0, 0, 9, 1, 0, 0, 4, 3, 2, 1, 0);
        due(5, kept::breaksAt);
        due(3, kept::makeSmall);
        due("2 0 0 ".length(), () -> answers(kept, true).length());
    }

    static void promise54() {
        Shrinkery x = queued(1, 0, 0, 42, 1, 7, 2, 8, 3, 2);
        int[] kinds = {0, 1, 2, 3};
        int[] numbers = {42, 0, 0, 2};
        for (int i = 0; i < 4; i++) {
            int at = i;
            due(kinds[at], () -> x.commandAt(at, true));
            due(numbers[at], () -> x.commandAt(at, false));
        }
        due(OUT, () -> x.commandAt(4, true));
        due(OUT, () -> x.commandAt(-1, false));
        // The command 2, a size, is left out with the one that names it; the put of what was taken gets a new name.
        Shrinkery small = queued(1, 3, 2, 0, 0, 5, 1, 0, 3, 2, 0, 6);
        due(4, small::breaksAt);
        small.makeSmall();
        due(0, () -> small.commandAt(0, true));
        due(2, () -> small.queue(1, 0));
    }

    static void promise55() {
        Shrinkery x = new Shrinkery();
        due(1, () -> x.beside(0, 0, MOST));
        due(2, () -> x.beside(0, 1, 9));
        due(3, () -> x.beside(0, 1, -9));
        due(1, () -> x.beside(1, 1, 0));
        due(OUT, () -> x.beside(2, 2, 10));
        due(OUT, () -> x.beside(-1, 0, 0));
        due(IAE, () -> x.beside(0, 2, 0));
        due(IAE, () -> x.beside(0, -1, 0));
        due(IAE, () -> x.beside(0, 1, 10));
        due(IAE, () -> x.beside(0, 1, -10));
        due(4, () -> x.beside(0, 0, 0));
        due(ISE, () -> x.beside(0, 0, 0));
        due(IAE, () -> x.beside(0, 1, 10));
        due(5, x::apart);
    }

    static void promise56() {
        Shrinkery x = new Shrinkery();
        due(0, x::apart);
        x.beside(0, 1, 1);
        x.beside(1, 1, 1);
        x.beside(1, 0, 1);
        due(3, x::apart);
        due(0, x::apart);
        due(1, () -> x.beside(1, 0, 0));
        due(0, () -> x.schedule(0, 1, 0));
    }

    /** Row 0 adds 5 and tells; row 1 adds 7 and tells. */
    private static Shrinkery beside() {
        Shrinkery x = new Shrinkery();
        x.beside(0, 1, 5);
        x.beside(0, 0, 0);
        x.beside(1, 1, 7);
        x.beside(1, 0, 0);
        return x;
    }

    private static String scheduled(Shrinkery x, int bits) {
        return x.schedule(bits, 0, 0) + " " + x.schedule(bits, 0, 1) + " " + x.schedule(bits, 1, 0) + " "
                + x.schedule(bits, 1, 1);
    }

    static void promise57() {
        Shrinkery x = beside();
        due("0 5 5 12", () -> scheduled(x, 0));
        due("7 12 0 7", () -> scheduled(x, -1));
        due("0 5 0 7", () -> scheduled(x, 2));
        due("0 12 5 12", () -> scheduled(x, 0b01100));
        due("0 7 0 7", () -> scheduled(x, 0b1010));
        due(OUT, () -> x.schedule(0, 2, 0));
        due(OUT, () -> x.schedule(0, -1, 0));
        due(OUT, () -> x.schedule(0, 0, 2));
        due(OUT, () -> x.schedule(0, 1, -1));
        due(OUT, () -> new Shrinkery().schedule(0, 0, 0));
    }

    static void promise58() {
        Shrinkery x = beside();
        due(true, () -> x.isInOrder(0));
        due(true, () -> x.isInOrder(-1));
        due(false, () -> x.isInOrder(2));
        due(true, () -> x.isInOrder(0b01100));
        due(false, () -> x.isInOrder(0b1010));
        due(true, () -> new Shrinkery().isInOrder(LEAST));
        // The answers alone would be in order: both add to 0, and only the last number tells of it.
        Shrinkery last = new Shrinkery();
        last.beside(0, 1, 0);
        last.beside(1, 1, 3);
        due(false, () -> last.isInOrder(0b0110));
        due(true, () -> last.isInOrder(0b1010));
        due(true, () -> last.isInOrder(0b0011));
    }

    static void promise59() {
        Shrinkery x = new Shrinkery();
        due(0, x::disorders);
        x.beside(0, 1, 5);
        due(0, x::disorders);
        x.beside(1, 1, 7);
        due(8, x::disorders);
        x.apart();
        for (int i = 0; i < 4; i++) {
            x.beside(0, 0, 0);
            x.beside(1, 0, 0);
        }
        due(0, x::disorders);
        x.apart();
        for (int i = 0; i < 3; i++) {
            x.beside(0, 1, 0);
        }
        x.beside(1, 1, 0);
        x.beside(1, 1, 0);
        due(0, x::disorders);
        x.beside(1, 0, 0);
        due(UNSUPPORTED, x::disorders);
        x.beside(1, 1, 1);
        due(UNSUPPORTED, x::disorders);
    }

    static void promise60() {
        Shrinkery x = new Shrinkery();
        due(1, () -> x.produce(0, 1, -1, -1, -1));
        due(2, () -> x.produce(0, 0, 0, -1, -1));
        due(3, () -> x.produce(0, 10, 99, 5, 0));
        due(IAE, () -> x.produce(6, 10, -1, -1, -1));
        due(IAE, () -> x.produce(-1, 10, -1, -1, -1));
        due(IAE, () -> x.produce(0, 6, -1, -1, -1));
        due(IAE, () -> x.produce(0, 9, -1, -1, -1));
        due(IAE, () -> x.produce(0, 100, -1, -1, -1));
        due(IAE, () -> x.produce(0, -1, -1, -1, -1));
        due(IAE, () -> x.produce(0, -1, 10, -1, -1));
        due(IAE, () -> x.produce(0, 10, -1, 10, -1));
        due(IAE, () -> x.produce(0, 10, -1, -1, 10));
        due(IAE, () -> x.produce(0, 10, 10, -1, 10));
        due(IAE, () -> x.produce(0, 10, 10, 10, 9));
        due(IAE, () -> x.produce(0, 10, -2, -1, -1));
        due(IAE, () -> x.produce(0, 0, -1, -1, -1));
        due(IAE, () -> x.produce(5, 5, -1, -1, -1));
        due(IAE, () -> x.produce(5, 4, -1, -1, -1));
        due(1, () -> x.produce(5, 4, 10, -1, -1));
        due(4, () -> x.produce(0, 11, -1, -1, -1));
        due(ISE, () -> x.produce(0, 11, -1, -1, -1));
        due(IAE, () -> x.produce(0, 0, -1, -1, -1));
    }

    static void promise61() {
        Shrinkery x = grammar();
        int[] counts = {1, 0, 1, 0, 2, 0, 5, 0, 14, 0, 42, 0};
        for (int i = 0; i < 12; i++) {
            int length = i + 1;
            due(counts[i], () -> x.words(0, length));
        }
        due(1, () -> x.words(1, 2));
        due(2, () -> x.words(1, 4));
        due(1, () -> x.words(2, 2));
        due(0, () -> x.words(2, 1));
        due(0, () -> x.words(5, 12));
        due(IAE, () -> x.words(6, 1));
        due(IAE, () -> x.words(-1, 1));
        due(IAE, () -> x.words(0, 0));
        due(IAE, () -> x.words(0, 13));
        // Each derivation counts by itself: the same word twice is two.
        x.produce(4, 50, -1, -1, -1);
        x.produce(4, 50, -1, -1, -1);
        due(2, () -> x.words(4, 1));
        Shrinkery many = new Shrinkery();
        many.produce(0, 0, 0, -1, -1);
        many.produce(0, 0, 0, 0, -1);
        many.produce(0, 0, 0, 0, 0);
        due(0, () -> many.words(0, 12));
        many.produce(0, 1, -1, -1, -1);
        for (int i = 10; i < 14; i++) {
            many.produce(1, i, -1, -1, -1);
        }
        due(4, () -> many.words(0, 1));
        due(16, () -> many.words(0, 2));
        due(3 * 64, () -> many.words(0, 3));
        due(1000000000, () -> many.words(0, 12));
    }

    private static String letters(Shrinkery x, int nonterminal, int length, int number) {
        StringBuilder all = new StringBuilder();
        for (int i = 0; i < length; i++) {
            all.append(i == 0 ? "" : ",").append(x.letterAt(nonterminal, length, number, i));
        }
        return all.toString();
    }

    static void promise62() {
        Shrinkery x = new Shrinkery();
        x.produce(0, 0, 0, -1, -1);
        x.produce(0, 10, -1, -1, -1);
        x.produce(0, 1, -1, -1, -1);
        x.produce(1, 20, 21, -1, -1);
        due(5, () -> x.words(0, 1) + 2 * x.words(0, 2));
        due("10", () -> letters(x, 0, 1, 0));
        due("10,10", () -> letters(x, 0, 2, 0));
        due("20,21", () -> letters(x, 0, 2, 1));
        due(NONE, () -> letters(x, 0, 2, 2));
        // Of length 3: first a part of length 1, and its others by their numbers, then one of length 2.
        String[] three = {"10,10,10", "10,20,21", "10,10,10", "20,21,10"};
        for (int i = 0; i < 4; i++) {
            int number = i;
            due(three[i], () -> letters(x, 0, 3, number));
        }
        due(4, () -> x.words(0, 3));
        due(NONE, () -> x.letterAt(0, 3, 4, 0));
        due(NONE, () -> x.letterAt(0, 3, -1, 0));
        due(NONE, () -> x.letterAt(0, 3, MOST, 0));
        due(NONE, () -> x.letterAt(5, 1, 0, 0));
        due(IAE, () -> x.letterAt(6, 1, 0, 0));
        due(IAE, () -> x.letterAt(0, 0, 0, 0));
        due(IAE, () -> x.letterAt(0, 13, 0, 0));
        due(IAE, () -> x.letterAt(0, 3, 0, 3));
        due(IAE, () -> x.letterAt(0, 3, -1, -1));
        Shrinkery many = new Shrinkery();
        many.produce(0, 1, 0, -1, -1);
        many.produce(0, 1, -1, -1, -1);
        for (int i = 0; i < 4; i++) {
            many.produce(1, 2, -1, -1, -1);
            many.produce(2, 10 + i, -1, -1, -1);
        }
        // 16 to the power of 12 are more than are counted; the last one of those has its first letters all alike.
        due(1000000000, () -> many.words(0, 12));
        due("10,10,10,10", () -> letters(many, 0, 12, 999999999).substring(0, 11));
        due(NONE, () -> many.letterAt(0, 12, 1000000000, 0));
        int number = 16 * (16 * 5 + 6) + 15;
        due("11,12,13", () -> letters(many, 0, 12, number).substring(27));
    }

    static void promise63() {
        Shrinkery x = new Shrinkery();
        x.number(0, 255);
        code(x, "r +1 %6 o");
        code(x, "r *3 =60:9 x2");
        code(x, "r +1 %6");
        due(OUT, () -> x.least(0, 3));
        due(OUT, () -> x.least(-1, 0));
        due(UNSUPPORTED, () -> x.least(0, 2));
        due(NONE, () -> x.least(0, 1));
        x.property('s', 0, 0);
        x.run(0, 0, 2, 30, 0);
        due(8, () -> x.least(0, 1));
        due(NONE, () -> x.least(1, 0));
        // Without any change there is the fault of the first program itself, or none.
        due(0, () -> x.least(1, 1));
        due(NONE, () -> x.least(0, 0));
        // Four parts, and the first one left out; then three, two and four of them; the changes 4 and 7 are left:
        // without the jump the fault is reached. The changes 1 and 7 would break too.
        Shrinkery two = new Shrinkery();
        two.number(0, 255);
        two.property('s', 0, 0);
        two.run(0, 0, 2, 30, 0);
        code(two, "+1 +1 +1 +1 j:15 +1 +1 +1 o");
        code(two, "+2 j:7 +2 +2 +2 +2 +2 x1 r");
        due(16 + 128, () -> two.least(0, 1));
        // Of 15 changes no half breaks; of the quarters the second one does, 4 to 7; then there are two parts again,
        // of which the first one breaks, though 6 and 7 would as well.
        Shrinkery quarter = new Shrinkery();
        quarter.number(0, 255);
        quarter.property('s', 0, 0);
        quarter.run(0, 0, 2, 30, 0);
        code(quarter, "+0 +0 +0 +0 +1 +0 +0 +0 <99:15 +0 +0 +0 x9 +0 j:15");
        code(quarter, "j:14 +3 +3 +3 +2 =2:12 +1 =2:12 j:15 +1 +1 +1 x8 +1 x7");
        due(16 + 32, () -> quarter.least(0, 1));
        // What is of no meaning is no change.
        Shrinkery same = new Shrinkery();
        same.number(0, 255);
        same.property('s', 0, 0);
        same.run(0, 0, 2, 30, 0);
        same.program();
        same.program();
        same.instruct(0, 'r', 1, 1);
        same.instruct(1, 'r', 2, 2);
        same.instruct(0, 'j', 1, 2);
        same.instruct(1, 'j', 2, 2);
        same.instruct(0, 'x', 1, 2);
        same.instruct(1, 'x', 1, 1);
        due(0, () -> same.least(0, 1));
    }

    static void promise64() {
        Shrinkery x = new Shrinkery();
        due(ARITHMETIC, x::breakShare);
        x.number(1, 9);
        x.property('s', 0, 0);
        x.property('s', 9, 0);
        x.run(1, 0, 1, 1, 0);
        due(0.0f, x::breakShare);
        x.run(0, 0, 1, 1, 0);
        due(0.5f, x::breakShare);
        x.run(0, 0, 1, 1, 0);
        due(2.0f / 3.0f, x::breakShare);
        due(IAE, () -> x.run(0, 0, 1, 0, 0));
        due(2.0f / 3.0f, x::breakShare);
        x.word(0, 1);
        x.run(0, 1, 1, 1, 0);
        due(0.5f, x::breakShare);
    }

    static void promise65() {
        Shrinkery x = grammar();
        due(true, x::isSound);
        x.word(0, 5);
        x.property('s', 0, 0);
        x.run(0, 0, 1, 1, 0);
        code(x, "r <50:3 x1 x2");
        x.search(0, 0, 1, 50);
        due(true, x::isSound);
        x.instruct(0, 'x', 1, 0);
        due(true, x::isSound);
        x.search(0, 0, 1, 50);
        x.produce(0, 12, -1, -1, -1);
        due(true, x::isSound);
        x.require(0, 9, 8);
        due(true, x::isSound);
        Shrinkery before = new Shrinkery();
        before.number(0, 255);
        before.program();
        before.property('d', 0, 0);
        before.search(0, 0, 1, 5);
        before.instruct(0, 'j', 0, 0);
        due(true, before::isSound);
    }
}
