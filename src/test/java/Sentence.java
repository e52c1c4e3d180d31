import java.util.LinkedHashSet;
import java.util.Set;

/** A sentence of the document, with the checks that fail if it does not hold. */
final class Sentence {
    private static final Set<String> HELD = new LinkedHashSet<>();

    private Sentence() {
    }

    static void of(String where, String text, Runnable checks) {
        int before = Check.count();
        Check.about(where + ", '" + text + "': ");
        checks.run();
        Check.due("it has checks", Check.count() > before, true);
        Check.due("it is held once", HELD.add(named(where, text)), true);
        Check.about("");
    }

    /** How a sentence is named, here and among those of the document. */
    static String named(String where, String text) {
        return where + ": " + text;
    }

    static Set<String> held() {
        return HELD;
    }
}
