import java.util.HashSet;
import java.util.Set;

/** Counts the answers that are not as due; a test ends with exit code 1 if there was one. */
final class Check {
    private static final int MOST_LINES = 40;
    private static final Set<String> SENTENCES = new HashSet<>();
    private static String sentence = "";
    private static int askedBefore = 0;
    private static int asked = 0;
    private static int wrong = 0;

    private Check() {
    }

    /** The answers from here on belong to a sentence of the document, which must have one at least. */
    static void sentence(String text) {
        endSentence();
        sentence = text;
        SENTENCES.add(text);
    }

    private static void endSentence() {
        if (!sentence.isEmpty() && asked == askedBefore) {
            wrong++;
            System.out.println("'" + sentence + "' has no answer");
        }
        askedBefore = asked;
    }

    static void due(String what, long got, long want) {
        asked++;
        if (got != want) {
            wrong++;
            if (wrong <= MOST_LINES) {
                String of = sentence.isEmpty() ? "" : "'" + sentence + "': ";
                System.out.println(of + what + " answered " + got + ", due is " + want);
            }
        }
    }

    static void due(String what, boolean got, boolean want) {
        due(what, got ? 1L : 0L, want ? 1L : 0L);
    }

    static int wrong() {
        return wrong;
    }

    static void end() {
        endSentence();
        String of = SENTENCES.isEmpty() ? "" : SENTENCES.size() + " sentences, ";
        System.out.println(of + asked + " answers, " + wrong + " not as due");
        if (wrong != 0 || asked == 0) {
            System.exit(1);
        }
    }
}
