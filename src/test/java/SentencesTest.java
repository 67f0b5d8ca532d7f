import java.io.IOException;

/** The document, sentence by sentence. */
public final class SentencesTest {
    public static void main(String[] args) throws IOException {
        Sentences say = new Sentences();
        SentencesOfTerms.ask(say);
        SentencesOfSchool.ask(say);
        SentencesOfPrinces.ask(say);
        SentencesOfForesight.ask(say);
        SentencesOfHearsay.ask(say);
        SentencesOfWhole.ask(say);
        say.end();
    }
}
