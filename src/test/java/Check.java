import java.util.Objects;

/** Counts the checks of one test program, and tells each one that fails. */
final class Check {
    /** A call that may throw. */
    interface Call {
        Object make();
    }

    private static int checks = 0;
    private static int wrong = 0;
    private static String about = "";

    private Check() {
    }

    /** What the checks that follow are about: told with each one that fails. */
    static void about(String what) {
        about = what;
    }

    static int count() {
        return checks;
    }

    /** The answer must be the one that is due: of the same type too. */
    static void due(String what, Object got, Object want) {
        checks++;
        if (!Objects.equals(got, want)) {
            wrong++;
            System.out.println(about + what + ": got " + got + ", due is " + want);
        }
    }

    /** The call must throw just this class, by a throw of the program, and change nothing. */
    static void fails(String what, CursorBench bench, Class<? extends RuntimeException> want, Call call) {
        String before = Shown.brief(bench);
        due(what, answer(call), "throws " + want.getName());
        due(what + " changes nothing", Shown.brief(bench), before);
    }

    /** The call must answer so, and change nothing that can be seen. */
    static void still(String what, CursorBench bench, Object want, Call call) {
        String before = Shown.brief(bench);
        due(what, answer(call), want);
        due(what + " changes nothing", Shown.brief(bench), before);
    }

    /** What a call answers: what it returns, or "throws " and the class of its exception. */
    static Object answer(Call call) {
        try {
            return call.make();
        } catch (RuntimeException thrown) {
            return "throws " + thrown.getClass().getName();
        }
    }

    /** To be called last: tells the count, and ends with exit code 1 if a check failed. */
    static void end(String name) {
        System.out.println(name + ": " + checks + " checks, " + wrong + " wrong");
        if (wrong > 0 || checks == 0) {
            System.exit(1);
        }
    }
}
