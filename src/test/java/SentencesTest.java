import java.io.IOException;

/** Each sentence of the document by a test that names it: ordinary calls, its edges, and what it refuses. */
public final class SentencesTest {
    public static void main(String[] args) throws IOException {
        TermsSentences.run();
        ControllersSentences.run();
        TicksAndGainsSentences.run();
        ExceptionsSentences.run();
        UnitCallSentences.run();
        ControllerCallSentences.run();
        QuestionSentences.run();
        Sentences.end();
        Check.end();
    }
}
