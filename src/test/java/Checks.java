/** What the tests share: how an answer is held against what is due, and short ways to make houses. */
abstract class Checks {
    static final Class<?> IAE = IllegalArgumentException.class;
    static final Class<?> ISE = IllegalStateException.class;
    static final Class<?> OUT = IndexOutOfBoundsException.class;
    static final Class<?> NONE = java.util.NoSuchElementException.class;
    static final Class<?> UNSUPPORTED = UnsupportedOperationException.class;
    static final Class<?> ARITHMETIC = ArithmeticException.class;
    static final int LEAST = Integer.MIN_VALUE;
    static final int MOST = Integer.MAX_VALUE;

    static int wrong;
    static int checks;
    /** What the checks are about: it is told with each one that is wrong. */
    static String about = "";

    interface Call {
        Object answer();
    }

    /** The answer of a call, or the class of the exception that it throws. */
    static Object answerOf(Call call) {
        try {
            return call.answer();
        } catch (RuntimeException e) {
            return e.getClass();
        }
    }

    static void due(Object want, Call call) {
        checks++;
        Object got = answerOf(call);
        if (!want.equals(got)) {
            StackTraceElement at = new Throwable().getStackTrace()[1];
            tellWrong(at + ": answered " + got + ", due is " + want);
        }
    }

    static void tellWrong(String what) {
        wrong++;
        System.out.println(about + ": " + what);
    }

    static void end(String done) {
        System.out.println(checks + " checks of " + done + ", " + wrong + " wrong");
        if (wrong != 0) {
            System.exit(1);
        }
    }

    /** Replays a row; answers all values, joined by commas, or how the call ends. */
    static String made(Shrinkery x, int generator, int... row) {
        x.erase();
        for (int draw : row) {
            x.type(draw);
        }
        int count = x.replay(generator);
        return values(x, count);
    }

    static String values(Shrinkery x, int count) {
        StringBuilder all = new StringBuilder();
        for (int i = 0; i < count; i++) {
            all.append(i == 0 ? "" : ",").append(x.value(i));
        }
        return all.toString();
    }

    /** The draws that the input used, joined by commas. */
    static String used(Shrinkery x) {
        StringBuilder all = new StringBuilder();
        for (int i = 0; i < x.draws(); i++) {
            all.append(i == 0 ? "" : ",").append(x.drawAt(i));
        }
        return all.toString();
    }

    /** The row or the values of the failure, joined by commas. */
    static String failure(Shrinkery x, boolean isRow) {
        StringBuilder all = new StringBuilder();
        for (int i = 0; i < 100; i++) {
            try {
                int one = isRow ? x.failureDraw(i) : x.failureValue(i);
                all.append(i == 0 ? "" : ",").append(one);
            } catch (IndexOutOfBoundsException e) {
                return all.toString();
            }
        }
        return all.toString();
    }

    /** A row of the corpus, joined by commas. */
    static String kept(Shrinkery x, int row) {
        StringBuilder all = new StringBuilder();
        for (int i = 0; i < 100; i++) {
            try {
                int one = x.corpusDraw(row, i);
                all.append(i == 0 ? "" : ",").append(one);
            } catch (IndexOutOfBoundsException e) {
                return all.toString();
            }
        }
        return all.toString();
    }

    /** Adds a program: instructions as kind, k and, behind a colon, t. */
    static int code(Shrinkery x, String text) {
        int program = x.program();
        for (String part : text.split(" ")) {
            if (part.isEmpty()) {
                continue;
            }
            String[] numbers = part.substring(1).split(":");
            int k = numbers[0].isEmpty() ? 0 : Integer.parseInt(numbers[0]);
            x.instruct(program, part.charAt(0), k, numbers.length > 1 ? Integer.parseInt(numbers[1]) : 0);
        }
        return program;
    }

    /** The draw of a number of a seed, from 1 on. */
    static int drawOf(int seed, int number) {
        int z = seed;
        for (int i = 0; i < number; i++) {
            z = z * 1103515245 + 12345;
        }
        return z >>> 16 & 255;
    }

    /** The first seed whose first two draws are these. */
    static int seedOf(int first, int second) {
        int seed = 0;
        while (drawOf(seed, 1) != first || drawOf(seed, 2) != second) {
            seed++;
        }
        return seed;
    }

    static int[] ones(int count) {
        int[] all = new int[count];
        java.util.Arrays.fill(all, 1);
        return all;
    }
}
