import java.util.HashSet;
import java.util.Set;
import java.util.function.IntSupplier;

/** What the tests share: compares answers with those that are due, and ends the run by them. */
final class Check {
    static final String BOUNDS = "IndexOutOfBoundsException";
    static final String ARGUMENT = "IllegalArgumentException";
    static final String STATE = "IllegalStateException";

    private int wrong = 0;
    private int looked = 0;
    private final Set<String> sentences = new HashSet<>();
    private String sentence = "";
    private int lookedBefore = 0;

    /** The words of the document that the answers from here on are due by. */
    void sentence(String words) {
        endSentence();
        sentences.add(words);
        sentence = words;
        lookedBefore = looked;
    }

    private void endSentence() {
        if (!sentences.isEmpty() && looked == lookedBefore) {
            tell("nothing was looked at");
        }
    }

    private void tell(String fault) {
        wrong++;
        System.out.println((sentence.isEmpty() ? "" : "\"" + sentence + "\": ") + fault);
    }

    void due(String call, long got, long want) {
        looked++;
        if (got != want) {
            tell(call + " answered " + got + ", due is " + want);
        }
    }

    void due(String call, String got, String want) {
        looked++;
        if (!got.equals(want)) {
            tell(call + " answered " + got + ", due is " + want);
        }
    }

    void dueThrow(String call, String name, IntSupplier action) {
        looked++;
        String got = thrownBy(action);
        if (!got.equals(name)) {
            tell(call + " threw " + got + ", due is " + name);
        }
    }

    // The exact class counts: a machine's ArrayIndexOutOfBoundsException is not what the document asks.
    static String thrownBy(IntSupplier action) {
        try {
            action.getAsInt();
            return "nothing";
        } catch (RuntimeException e) {
            return e.getClass().getSimpleName();
        }
    }

    void end() {
        endSentence();
        String of = sentences.isEmpty() ? "" : " of " + sentences.size() + " sentences";
        System.out.println(looked + " answers" + of + ", " + wrong + " not as due");
        if (wrong != 0 || looked == 0) {
            System.exit(1);
        }
    }
}
