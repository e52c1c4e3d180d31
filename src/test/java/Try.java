import java.util.Arrays;

/** Tries calls on new benches, so that none is used for more than the 512 calls that are promised. */
final class Try {
    /** A call, or some calls of which the last one answers. */
    interface Call {
        Object on(CursorBench bench);
    }

    /** Calls that lead to where a try begins. */
    interface Calls {
        void on(CursorBench bench);
    }

    // What tells two benches apart; each look is for a bench of its own, as it may change it.
    private static final Call[] LOOKS = {Shown::all, bench -> removed(bench, 0), bench -> removed(bench, 1),
        bench -> removed(bench, 2), bench -> removed(bench, 3), bench -> removed(bench, 4), Try::replaced, Try::rests,
        Try::played};

    private Try() {
    }

    /** The call on a new bench must answer so. */
    static void due(String what, Object want, Call call) {
        CursorBench bench = new CursorBench();
        Check.due(what, Check.answer(() -> call.on(bench)), want);
    }

    /** The call must answer so, and nothing may tell the bench from one on which the call was not made. */
    static void still(String what, Calls before, Object want, Call call) {
        for (Call look : LOOKS) {
            CursorBench bench = new CursorBench();
            CursorBench twin = new CursorBench();
            before.on(bench);
            before.on(twin);
            Check.due(what, Check.answer(() -> call.on(bench)), want);
            Check.due(what + " changes nothing", look.on(bench), look.on(twin));
        }
    }

    /** The call must throw just this class, and change nothing. */
    static void fails(String what, Calls before, Class<? extends RuntimeException> want, Call call) {
        still(what, before, "throws " + want.getName(), call);
    }

    /** Answers in a row, such as "[3, true]". */
    static String list(Object... answers) {
        return Arrays.toString(answers);
    }

    /** One call after the other on one bench, with all their answers. */
    static String each(CursorBench bench, Call... calls) {
        Object[] answers = new Object[calls.length];
        for (int index = 0; index < calls.length; index++) {
            Call call = calls[index];
            answers[index] = Check.answer(() -> call.on(bench));
        }
        return list(answers);
    }

    static boolean isThrow(Object answer) {
        return String.valueOf(answer).startsWith("throws ");
    }

    static void put(CursorBench bench, int row, int... numbers) {
        bench.clear(row);
        for (int number : numbers) {
            bench.append(row, number);
        }
    }

    /** Sets the text, up to eight bytes a call. */
    static void write(CursorBench bench, String text) {
        bench.clearText();
        long bytes = 0;
        for (int index = 0; index < text.length(); index++) {
            bytes = bytes << 8 | text.charAt(index);
            if (index % 8 == 7 || index == text.length() - 1) {
                bench.type(bytes);
                bytes = 0;
            }
        }
    }

    /** A bench with five numbers in each row, a cursor in each slot, some of which have told a number, and a text. */
    static void busy(CursorBench bench) {
        put(bench, Names.ARRAY, 10, 20, 30, 40, 50);
        put(bench, Names.LINKED, 7, 7, -3, 7, 0);
        put(bench, Names.SORTED, 5, -4, 8, 2, -1);
        put(bench, Names.DEQUE, 9, 1, 9, 2, 9);
        bench.open(0, Names.ARRAY, Names.LIST, 1);
        bench.next(0);
        bench.open(1, Names.LINKED, Names.VIEW, 3);
        bench.previous(1);
        bench.open(2, Names.SORTED, Names.FORTH, 0);
        bench.next(2);
        bench.open(3, Names.DEQUE, Names.BACK, 0);
        bench.next(3);
        bench.open(4, Names.LINKED, Names.LIST, 2);
        bench.example(1);
    }

    /** A row with 10, 20, and so on, and in slot 2 a cursor that makes these moves: n goes on, p goes back. */
    static Calls cursor(int row, int kind, int many, int place, String moves) {
        return bench -> {
            bench.fill(row, 10, 10, many);
            bench.open(2, row, kind, place);
            for (int index = 0; index < moves.length(); index++) {
                if (moves.charAt(index) == 'n') {
                    bench.next(2);
                } else {
                    bench.previous(2);
                }
            }
        };
    }

    private static String digests(CursorBench bench) {
        return list(bench.digest(0), bench.digest(1), bench.digest(2), bench.digest(3));
    }

    private static String removed(CursorBench bench, int slot) {
        return Check.answer(() -> bench.remove(slot)) + digests(bench) + Shown.standing(bench);
    }

    private static String replaced(CursorBench bench) {
        StringBuilder answers = new StringBuilder();
        for (int slot = 0; slot < Shown.SLOTS; slot++) {
            int here = slot;
            answers.append(Check.answer(() -> bench.replace(here, 500 + here))).append(digests(bench));
        }
        return answers.toString();
    }

    private static String rests(CursorBench bench) {
        StringBuilder answers = new StringBuilder();
        for (int slot = 0; slot < Shown.SLOTS; slot++) {
            int here = slot;
            answers.append(Check.answer(() -> bench.rest(here))).append(' ');
        }
        return answers.toString();
    }

    private static String played(CursorBench bench) {
        bench.fill(Names.ARRAY, 1, 1, 20);
        bench.open(0, Names.ARRAY, Names.LIST, 10);
        return Check.answer(() -> bench.play(0)) + Shown.row(bench, Names.ARRAY) + bench.nextPlace(0);
    }
}
