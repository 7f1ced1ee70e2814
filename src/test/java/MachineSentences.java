/** The sentences on machines of states, and on rows of commands side by side. */
final class MachineSentences extends Sentences {
    static void all() {
        sentence("A queue under test has a room from 1 to 4 and a defect: 0 none;", MachineSentences::withoutDefect);
        sentence("1 its size is told as 0 when it is full;", MachineSentences::toldAsNothing);
        sentence("2 what is taken from a full queue is the newest one;", MachineSentences::newestTaken);
        sentence("3 what is put into a full one takes the place of the oldest one, and is the oldest one then.",
                MachineSentences::oldestReplaced);
        sentence("The model refuses to put into a full queue, with the answer -1, and answers 0 otherwise; from an "
                + "empty one it takes -1, otherwise the oldest; it tells its size.", MachineSentences::model);
        sentence("At most 20 commands: 0 put a value; 1 take; 2 size; 3 put what an earlier command answered.",
                MachineSentences::atMostTwenty);
        sentence("The queue under test does as the model, but for its defect; what takes the place of the oldest one "
                + "is answered with 0.", MachineSentences::butForItsDefect);
        sentence("Both run all commands from empty queues, each with its own answers; for 3, an answer below 0 is put "
                + "as 0.", MachineSentences::ownAnswers);
        sentence("They break at the first command whose answers differ.", MachineSentences::firstBreak);
        sentence("To make the row small, commands are left out one by one, from the last one down, each with all those "
                + "that name it, and those that name these; those that name others still do; if it breaks then, at "
                + "whatever command, it stays so, and all begins anew from the last one.", MachineSentences::small);
        sentence("Two rows of at most 4 commands each go on a number, 0 at first: 0 tells it; 1 adds k to it, in two "
                + "steps, of which the first one reads, the second one writes what was read plus k; its answer is what "
                + "it read.", MachineSentences::twoRows);
        sentence("A schedule tells, bit by bit from the lowest one on, which row goes on with its next step, 0 or 1; a "
                + "row that is over leaves its turn to the other one; behind the bits all are 0.",
                MachineSentences::schedules);
        sentence("It is in order if there is an order of all commands, each row's own kept, in which, one whole "
                + "command behind the other, all give the same answers, and the last number is the same.",
                MachineSentences::inOrder);
    }

    /** A house with a queue and commands: each a kind and a number. */
    private static Shrinkery queued(int room, int defect, int... commands) {
        Shrinkery x = new Shrinkery();
        x.queue(room, defect);
        for (int i = 0; i < commands.length; i += 2) {
            x.command(commands[i], commands[i + 1]);
        }
        return x;
    }

    /** All answers, joined by spaces. */
    private static String answers(Shrinkery x, boolean ofModel) {
        StringBuilder all = new StringBuilder();
        for (int i = 0; i < 20; i++) {
            try {
                int answer = x.answer(i, ofModel);
                all.append(i == 0 ? "" : " ").append(answer);
            } catch (IndexOutOfBoundsException e) {
                return all.toString();
            }
        }
        return all.toString();
    }

    /** All commands, each as its kind and its number. */
    private static String commands(Shrinkery x) {
        StringBuilder all = new StringBuilder();
        for (int i = 0; i < 20; i++) {
            try {
                int kind = x.commandAt(i, true);
                all.append(i == 0 ? "" : " ").append(kind).append(":").append(x.commandAt(i, false));
            } catch (IndexOutOfBoundsException e) {
                return all.toString();
            }
        }
        return all.toString();
    }

    /** So many puts of 1, 2 and so on, and other commands behind them. */
    private static Shrinkery filled(int room, int defect, int puts, int... others) {
        Shrinkery x = new Shrinkery();
        x.queue(room, defect);
        for (int i = 1; i <= puts; i++) {
            x.command(0, i);
        }
        for (int kind : others) {
            x.command(kind, 0);
        }
        return x;
    }

    private static void withoutDefect() {
        due(IAE, () -> new Shrinkery().queue(0, 0));
        due(IAE, () -> new Shrinkery().queue(5, 0));
        String[] full = {"0 -1 1", "0 0 -1 2", "0 0 0 -1 3", "0 0 0 0 -1 4"};
        for (int room = 1; room <= 4; room++) {
            int of = room;
            Shrinkery x = filled(room, 0, room + 1, 2);
            due(full[of - 1], () -> answers(x, false));
            due(full[of - 1], () -> answers(x, true));
            due(NONE, x::breaksAt);
        }
        due("0 0 1", () -> answers(filled(4, 0, 2, 1), false));
    }

    private static void toldAsNothing() {
        for (int room = 1; room <= 4; room++) {
            for (int puts = 0; puts <= room + 1; puts++) {
                int size = Math.min(room, puts);
                int at = puts;
                boolean isFull = puts >= room;
                Shrinkery x = filled(room, 1, puts, 2);
                due(size, () -> x.answer(at, true));
                due(isFull ? 0 : size, () -> x.answer(at, false));
                due(isFull ? at : NONE, x::breaksAt);
            }
        }
        // Not full any more, it tells its size again.
        due("0 0 0 1 1", () -> answers(filled(2, 1, 2, 2, 1, 2), false));
    }

    private static void newestTaken() {
        due("0 1", () -> answers(filled(1, 2, 1, 1), false));
        due("0 0 0 3 1 2 -1", () -> answers(filled(3, 2, 3, 1, 1, 1, 1), false));
        due("0 0 0 1 2 3 -1", () -> answers(filled(3, 2, 3, 1, 1, 1, 1), true));
        due("0 0 1 2", () -> answers(filled(3, 2, 2, 1, 1), false));
        due("0 0 0 0 -1 4 1 2 3", () -> answers(filled(4, 2, 5, 1, 1, 1, 1), false));
        // Full again, it is the newest one again.
        Shrinkery x = queued(2, 2, 0, 1, 0, 2, 1, 0, 0, 3, 1, 0, 1, 0);
        due("0 0 2 0 3 1", () -> answers(x, false));
        due("0 0 1 0 2 3", () -> answers(x, true));
    }

    private static void oldestReplaced() {
        due("0 0 2 -1", () -> answers(filled(1, 3, 2, 1, 1), false));
        due("0 -1 1 -1", () -> answers(filled(1, 3, 2, 1, 1), true));
        due("0 0 0 2 3 2 -1", () -> answers(filled(2, 3, 3, 2, 1, 1, 1), false));
        due("0 0 0 0 4 2 -1", () -> answers(filled(2, 3, 4, 1, 1, 1), false));
        due("0 0 0 0 0 5 2 3 4", () -> answers(filled(4, 3, 5, 1, 1, 1, 1), false));
        due("0 0 0 0 1 2 3 4", () -> answers(filled(4, 3, 4, 1, 1, 1, 1), false));
    }

    private static void model() {
        for (int defect = 0; defect <= 3; defect++) {
            due("-1 0", () -> answers(filled(2, 0, 0, 1, 2), true));
            int of = defect;
            due("0 0 -1 2 1 1 2 0 -1 0", () -> answers(filled(2, of, 3, 2, 1, 2, 1, 2, 1, 2), true));
            due("0 0 -1 -1", () -> answers(filled(2, of, 4), true));
        }
        due("0 1 0 2 -1", () -> answers(queued(1, 0, 0, 1, 1, 0, 0, 2, 1, 0, 1, 0), true));
    }

    private static void atMostTwenty() {
        Shrinkery x = new Shrinkery();
        for (int i = 0; i < 20; i++) {
            int number = i;
            due(OUT, () -> x.commandAt(number, true));
            due(number, () -> number == 0 ? x.command(0, 7) : x.command(number % 4, number - 1));
        }
        due(ISE, () -> x.command(2, 0));
        due("0:7 1:0 2:0 3:2 0:3 1:0 2:0 3:6 0:7 1:0 2:0 3:10 0:11 1:0 2:0 3:14 0:15 1:0 2:0 3:18",
                () -> commands(x));
        due(OUT, () -> x.commandAt(20, true));
        due(20, () -> x.queue(1, 0));
        due(0, () -> x.command(1, 0));
        // A command that is not earlier, none at all, and the first one.
        due(IAE, () -> x.command(3, 1));
        due(IAE, () -> x.command(3, -1));
        due(1, () -> x.command(3, 0));
        due(IAE, () -> new Shrinkery().command(3, 0));
    }

    private static void butForItsDefect() {
        // Size, put and take as the model's, but for the one that is defect.
        String[] due = {"0 0 -1 2 1 1 2 0", "0 0 -1 0 1 1 2 0", "0 0 -1 2 2 1 1 0", "0 0 0 2 3 1 2 0"};
        int[] breaks = {-1, 3, 4, 2};
        for (int defect = 0; defect <= 3; defect++) {
            int of = defect;
            Shrinkery x = filled(2, defect, 3, 2, 1, 2, 1, 2);
            due("0 0 -1 2 1 1 2 0", () -> answers(x, true));
            due(due[of], () -> answers(x, false));
            due(of == 0 ? NONE : breaks[of], x::breaksAt);
        }
        // The answer 0 of a put in the place of another one, and 3 with it.
        due("0 0 0 0", () -> answers(queued(1, 3, 0, 1, 0, 2, 0, 3, 3, 2), false));
    }

    private static void ownAnswers() {
        // The size 2 is told as 0 by the queue, and each puts its own.
        Shrinkery own = queued(2, 1, 0, 8, 0, 9, 2, 0, 1, 0, 3, 2, 1, 0, 1, 0);
        due("0 0 2 8 0 9 2", () -> answers(own, true));
        due("0 0 0 8 0 9 0", () -> answers(own, false));
        // -1 is put as 0: that of a take from an empty queue, and that of a put into a full one.
        due("-1 0 0", () -> answers(queued(1, 0, 1, 0, 3, 0, 1, 0), true));
        due("-1 0 0", () -> answers(queued(1, 0, 1, 0, 3, 0, 1, 0), false));
        due("0 -1 1 0 0", () -> answers(queued(1, 0, 0, 1, 0, 2, 1, 0, 3, 1, 1, 0), true));
        // 0 and what is above it is put as it is; a 3 that names a 3 puts what that one answered.
        due("0 0 2 0 5 6 2", () -> answers(queued(3, 0, 0, 5, 0, 6, 2, 0, 3, 2, 1, 0, 1, 0, 1, 0), true));
        due("0 5 0 5 0 0", () -> answers(queued(1, 0, 0, 5, 1, 0, 3, 1, 1, 0, 3, 2, 1, 0), true));
        // From empty queues: asked again, they answer the same.
        due("0 0 0 8 0 9 0", () -> answers(own, false));
        due("0 0 2 8 0 9 2", () -> answers(own, true));
    }

    private static void firstBreak() {
        due(NONE, () -> queued(1, 3, 0, 1).breaksAt());
        due(1, () -> queued(1, 3, 0, 1, 0, 2).breaksAt());
        due(1, () -> queued(1, 3, 0, 1, 0, 2, 0, 3, 1, 0).breaksAt());
        due(0, () -> queued(1, 1, 2, 0, 0, 1).answer(0, false));
        due(NONE, () -> queued(1, 1, 2, 0, 0, 1).breaksAt());
        due(2, () -> queued(1, 1, 2, 0, 0, 1, 2, 0, 2, 0).breaksAt());
        due(NONE, () -> new Shrinkery().breaksAt());
        // What is held otherwise is no break before it is told.
        Shrinkery x = queued(2, 2, 0, 7, 0, 7, 1, 0, 1, 0, 0, 1, 0, 2);
        due(NONE, x::breaksAt);
        x.command(1, 0);
        due(6, x::breaksAt);
    }

    private static Shrinkery isSmall(String left, Shrinkery x) {
        int many = left.split(" ").length;
        due(many, x::makeSmall);
        due(left, () -> commands(x));
        due(many, x::makeSmall);
        due(left, () -> commands(x));
        return x;
    }

    private static void small() {
        // From the last one down: the last one of three puts goes, neither of the first two does.
        isSmall("0:1 0:2", queued(1, 3, 0, 1, 0, 2, 0, 3));
        // Each with those that name it, and those that name these: without the size there is no put.
        isSmall("2:0 3:0 3:1", queued(1, 3, 2, 0, 3, 0, 3, 1, 0, 7));
        // Those that name others still do, by their new numbers; it breaks at another command then.
        Shrinkery named = isSmall("0:5 3:0", queued(1, 3, 2, 0, 0, 5, 3, 1));
        due(1, named::breaksAt);
        Shrinkery further = isSmall("0:5 3:0 2:0", queued(2, 1, 2, 0, 0, 5, 2, 0, 3, 1, 2, 0));
        due(2, further::breaksAt);
        // All begins anew: as the take is left out the third put can be, before the first one is tried.
        isSmall("0:1 0:2 2:0", queued(2, 1, 0, 1, 1, 0, 0, 2, 0, 3, 2, 0));
        // And from the last one: without the take it breaks ahead of the last put, which goes then.
        isSmall("0:1 0:2", queued(1, 3, 0, 1, 1, 0, 0, 2, 0, 3));
        due(NONE, () -> queued(2, 1, 0, 1, 2, 0).makeSmall());
        due(NONE, () -> queued(2, 0, 0, 1, 0, 2, 0, 3).makeSmall());
        // A row of 20 of which each put names the one ahead.
        Shrinkery chain = new Shrinkery();
        chain.queue(4, 3);
        chain.command(0, 9);
        for (int i = 1; i < 20; i++) {
            chain.command(3, i - 1);
        }
        isSmall("0:9 3:0 3:1 3:2 3:3", chain);
    }

    private static void twoRows() {
        Shrinkery x = new Shrinkery();
        for (int row = 0; row < 2; row++) {
            int of = row;
            for (int i = 1; i <= 4; i++) {
                int many = i;
                due(many, () -> x.beside(of, 0, 0));
                due(0, () -> x.schedule(0, of, many - 1));
            }
            due(ISE, () -> x.beside(of, 0, 0));
        }
        due(8, x::apart);
        // One command behind the other: each answer is the number ahead of it, the tells' too.
        x.beside(0, 1, 9);
        x.beside(0, 0, 5);
        x.beside(0, 1, -9);
        x.beside(0, 1, -9);
        x.beside(1, 0, 0);
        int[] answers = {0, 9, 9, 0};
        for (int i = 0; i < 4; i++) {
            int at = i;
            due(answers[at], () -> x.schedule(0, 0, at));
        }
        due(-9, () -> x.schedule(0, 1, 0));
        // Read, then the other row's tell, then written: a tell is one step, what is added two.
        int[] tells = {-9, 0, 0, 9, 9, 9, 0, 0, -9};
        for (int step = 1; step <= 8; step++) {
            int at = step;
            int bits = 1 << step - 1;
            due(tells[at], () -> x.schedule(bits, 1, 0));
        }
        // What was read plus k, not what there is now.
        x.apart();
        x.beside(0, 1, 5);
        x.beside(0, 0, 0);
        x.beside(1, 1, 7);
        due(7, () -> x.schedule(0b01010, 0, 1));
        due(5, () -> x.schedule(0b00110, 0, 1));
        due(0, () -> x.schedule(0b00110, 1, 0));
        due(12, () -> x.schedule(0b00011, 0, 1));
        due(12, () -> x.schedule(0b01100, 0, 1));
        due(5, () -> x.schedule(0b01100, 1, 0));
    }

    private static void schedules() {
        Shrinkery x = new Shrinkery();
        x.beside(0, 1, 1);
        x.beside(0, 0, 0);
        x.beside(1, 1, 2);
        x.beside(1, 0, 0);
        // The lowest bit first: row 1 reads, and all others are 0; a row that is over leaves its turn.
        due("0 1 0 2", () -> scheduled(x, 0b000001));
        due("0 1 1 3", () -> scheduled(x, 0));
        due("0 1 1 3", () -> scheduled(x, 0b111000));
        due("2 3 0 2", () -> scheduled(x, 0b000111));
        due("2 3 0 2", () -> scheduled(x, 0b111111));
        due("2 3 0 2", () -> scheduled(x, -1));
        due("2 3 0 3", () -> scheduled(x, 0b010011));
        due("0 1 1 3", () -> scheduled(x, LEAST));
        due("0 1 1 3", () -> scheduled(x, 1 << 6));
        // Bits of a row that is over count as turns all the same.
        Shrinkery one = new Shrinkery();
        one.beside(0, 0, 0);
        one.beside(1, 1, 3);
        due(0, () -> one.schedule(0b010, 0, 0));
        due(3, () -> one.schedule(0b011, 0, 0));
        due(0, () -> one.schedule(0b001, 0, 0));
        Shrinkery alone = new Shrinkery();
        alone.beside(1, 1, 3);
        alone.beside(1, 0, 0);
        due(3, () -> alone.schedule(0, 1, 1));
        due(3, () -> alone.schedule(5, 1, 1));
        // All sixteen steps go by the bits that they are told by.
        Shrinkery full = new Shrinkery();
        for (int i = 0; i < 4; i++) {
            full.beside(0, 1, 1);
            full.beside(1, 1, 2);
        }
        due(8, () -> full.schedule(0xFF, 0, 0));
        due(11, () -> full.schedule(0xFF, 0, 3));
        due(4, () -> full.schedule(0xFF00, 1, 0));
        due(9, () -> full.schedule(0x3FC0, 1, 3));
        due(11, () -> full.schedule(0x3FC0, 0, 3));
    }

    private static String scheduled(Shrinkery x, int bits) {
        return x.schedule(bits, 0, 0) + " " + x.schedule(bits, 0, 1) + " " + x.schedule(bits, 1, 0) + " "
                + x.schedule(bits, 1, 1);
    }

    private static void inOrder() {
        due(true, () -> new Shrinkery().isInOrder(5));
        Shrinkery x = new Shrinkery();
        x.beside(0, 1, 5);
        due(true, () -> x.isInOrder(0));
        x.beside(0, 0, 0);
        x.beside(1, 1, 7);
        // Whole commands, in whatever order of the rows.
        due(true, () -> x.isInOrder(0b00000));
        due(true, () -> x.isInOrder(0b00011));
        due(true, () -> x.isInOrder(0b01100));
        // Both read 0: no order gives that, whoever writes last.
        due(false, () -> x.isInOrder(0b01010));
        due(false, () -> x.isInOrder(0b00110));
        // The tell comes between the other one's read and write: all are in order if it is ahead of that.
        due(true, () -> x.isInOrder(0b10100));
        // Both read 0, and one adds 0: the last number alone tells whether what was added is lost.
        Shrinkery last = new Shrinkery();
        last.beside(0, 1, 0);
        last.beside(1, 1, 3);
        due(false, () -> last.isInOrder(0b0110));
        due(true, () -> last.isInOrder(0b1010));
        // Each row's own order: all answers could come by another one.
        Shrinkery own = new Shrinkery();
        own.beside(0, 1, 2);
        own.beside(0, 1, 1);
        own.beside(1, 0, 0);
        own.beside(1, 1, 1);
        own.beside(1, 1, -1);
        own.beside(1, 1, -1);
        int bits = 0b1011101110;
        int[] answers = {0, 1, 0, 0, 2, 1};
        for (int i = 0; i < 6; i++) {
            int at = i;
            due(answers[at], () -> own.schedule(bits, at < 2 ? 0 : 1, at < 2 ? at : at - 2));
        }
        due(false, () -> own.isInOrder(bits));
        due(true, () -> own.isInOrder(0));
        // The last number is 7 as it should be, but the second row's 5 can't be read behind its own -5.
        Shrinkery never = new Shrinkery();
        never.beside(0, 1, 5);
        never.beside(0, 1, -5);
        never.beside(0, 1, 7);
        never.beside(1, 1, -5);
        never.beside(1, 1, 5);
        due(5, () -> never.schedule(0b100100101, 1, 1));
        due(false, () -> never.isInOrder(0b100100101));
    }
}
