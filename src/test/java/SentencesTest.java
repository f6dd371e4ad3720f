/**
 * Every sentence of the document, promise by promise: the last number that is taken and the first that
 * is refused, first values, the empty and the full lake, the first and the last HOUR, and that a
 * refused call changes nothing. Each test names its sentence, and no word is left without one.
 */
public final class SentencesTest {
    public static void main(String[] args) {
        TermsSentences.all();
        DoingSentences.all();
        SetterSentences.all();
        AnswerSentences.all();
        Sentence.allNamed();
        Due.end();
    }
}
