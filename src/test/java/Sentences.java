import java.io.IOException;
import java.nio.file.Files;
import java.nio.file.Path;

/** Tests of sentences of the document: each one is quoted, and what no test quotes is known in the end. */
abstract class Sentences extends Checks {
    /** What of the Terms no test has quoted yet. */
    private static String left = "";

    static void readTerms() throws IOException {
        String document = Files.readString(Path.of("../shared/DOC.md"));
        String terms = document.substring(document.indexOf("## Terms") + 8, document.indexOf("## Promise 1:"));
        left = terms.replaceAll("<h2>.*?</h2>", " ").replaceAll("\\s+", " ");
    }

    static void sentence(String quotation, Runnable test) {
        about = quotation;
        int at = left.indexOf(quotation);
        if (at < 0) {
            tellWrong("the document does not say so");
        } else {
            left = left.substring(0, at) + "|" + left.substring(at + quotation.length());
        }
        int before = checks;
        try {
            test.run();
        } catch (RuntimeException e) {
            tellWrong("a call that is no check throws " + e + " at " + java.util.Arrays.toString(e.getStackTrace()));
        }
        if (checks == before) {
            tellWrong("there is no check");
        }
    }

    static void tellUnquoted() {
        about = "the document's Terms";
        for (String rest : left.split("\\|")) {
            if (!rest.isBlank()) {
                tellWrong("no test for: " + rest.trim());
            }
        }
    }

    /** A house whose generators 0 to 6 make 1, 2, 4, 8, 16, 32 and 40 numbers from 0 to 255. */
    static Shrinkery numbers() {
        Shrinkery x = new Shrinkery();
        x.number(0, 255);
        for (int i = 0; i < 5; i++) {
            x.pair(i, i);
        }
        x.pair(5, 3);
        return x;
    }

    /** A house with the generators 0, a number, and 1, a list of at most 8, and an input of these values. */
    static Shrinkery withInput(int... values) {
        Shrinkery x = new Shrinkery();
        x.number(0, 255);
        x.list(0, 8);
        int[] row = new int[values.length + 1];
        row[0] = values.length;
        System.arraycopy(values, 0, row, 1, values.length);
        made(x, 1, row);
        return x;
    }

    static int fault(String text, int... values) {
        Shrinkery x = withInput(values);
        return x.faultOf(code(x, text));
    }

    static int output(String text, int... values) {
        Shrinkery x = withInput(values);
        return x.output(code(x, text));
    }

    static int type(String text, int... values) {
        Shrinkery x = withInput(values);
        return x.classOf(code(x, text));
    }

    static int edges(String text, int... values) {
        Shrinkery x = withInput(values);
        return x.edges(code(x, text));
    }

    static int level(String text, int from, int to, int... values) {
        Shrinkery x = withInput(values);
        return x.level(code(x, text), from, to);
    }
}
