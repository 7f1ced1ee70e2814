import java.io.IOException;

/**
 * Each sentence of the document's Terms, with a test of its own: at the bounds that it names, and on both sides of
 * them. What no test quotes is told as wrong, and so is a quotation that the document does not have.
 */
public final class SentencesTest extends Sentences {
    public static void main(String[] args) throws IOException {
        readTerms();
        GeneratorSentences.all();
        ProgramSentences.all();
        PropertySentences.all();
        ShrinkingSentences.all();
        SearchSentences.all();
        MachineSentences.all();
        GrammarSentences.all();
        tellUnquoted();
        end("the sentences of the Terms");
    }
}
