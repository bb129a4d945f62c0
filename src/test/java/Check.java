import java.util.function.IntSupplier;

/** What the tests share: compares answers with those that are due, and ends the run by them. */
final class Check {
    static final String BOUNDS = "IndexOutOfBoundsException";
    static final String ARGUMENT = "IllegalArgumentException";
    static final String STATE = "IllegalStateException";

    private int wrong = 0;
    private int looked = 0;

    void due(String call, long got, long want) {
        looked++;
        if (got != want) {
            wrong++;
            System.out.println(call + " answered " + got + ", due is " + want);
        }
    }

    void due(String call, String got, String want) {
        looked++;
        if (!got.equals(want)) {
            wrong++;
            System.out.println(call + " answered " + got + ", due is " + want);
        }
    }

    void dueThrow(String call, String name, IntSupplier action) {
        looked++;
        String got = thrownBy(action);
        if (!got.equals(name)) {
            wrong++;
            System.out.println(call + " threw " + got + ", due is " + name);
        }
    }

    // The exact class counts: a machine's ArrayIndexOutOfBoundsException is not what the document asks.
    static String thrownBy(IntSupplier action) {
        try {
            action.getAsInt();
            return "nothing";
        } catch (RuntimeException e) {
            return e.getClass().getSimpleName();
        }
    }

    void end() {
        System.out.println(looked + " answers, " + wrong + " not as due");
        if (wrong != 0 || looked == 0) {
            System.exit(1);
        }
    }
}
