import java.util.ArrayList;
import java.util.List;
import java.util.function.Consumer;
import java.util.function.Supplier;

/** What the tests share: the sentence that is looked at, answers and exceptions that are due, and the exit code. */
final class Checks {
    static final long NONE = 4294967296L;
    private static final List<String> SENTENCES = new ArrayList<>();
    private static String sentence = "";
    private static int wrong = 0;

    private Checks() {
    }

    /** From here on it is this sentence of a promise that is looked at. */
    static void promise(int number, String told) {
        sentence("Promise " + number, told);
    }

    /** From here on it is this sentence of the document's Terms, or of what it is, that is looked at. */
    static void terms(String told) {
        sentence("Terms", told);
    }

    private static void sentence(String where, String told) {
        sentence = where + ": \"" + told + "\"";
        SENTENCES.add(sentence);
    }

    static void due(String call, long got, long want) {
        if (got != want) {
            fault(call + " answered " + got + ", due is " + want);
        }
    }

    static void due(String call, boolean got, boolean want) {
        if (got != want) {
            fault(call + " answered " + got + ", due is " + want);
        }
    }

    static void fault(String what) {
        wrong++;
        System.out.println(sentence.isEmpty() ? what : sentence + "\n    " + what);
    }

    /**
     * The call must throw just this exception and change nothing: an object that refused it and one that never got it
     * must tell the same. Each look is at objects made anew, so that none goes beyond its 512 calls.
     */
    static void refused(String call, Class<? extends RuntimeException> due, Supplier<MapsByUse> made,
            Consumer<MapsByUse> body) {
        for (Seen.Part part : Seen.Part.values()) {
            MapsByUse x = made.get();
            Class<?> thrown = thrownBy(x, body);
            if (thrown != due) {
                fault(call + " threw " + thrown + ", due is " + due);
                return;
            }
            String after = Seen.of(part, x);
            String without = Seen.of(part, made.get());
            if (!after.equals(without)) {
                fault(call + " threw and changed " + part + " from " + without + " to " + after);
            }
        }
    }

    private static Class<?> thrownBy(MapsByUse x, Consumer<MapsByUse> body) {
        try {
            body.accept(x);
        } catch (RuntimeException e) {
            return e.getClass();
        }
        return null;
    }

    /** With an argument, the run tells each sentence that it looked at. */
    static void end(String test, String... args) {
        if (args.length > 0) {
            SENTENCES.forEach(System.out::println);
        }
        String looked = SENTENCES.isEmpty() ? "" : ", " + SENTENCES.size() + " sentences";
        System.out.println(test + looked + ": " + (wrong == 0 ? "all is as due" : wrong + " faults"));
        if (wrong != 0) {
            System.exit(1);
        }
    }
}
