/** The Terms "4. Programs", sentence by sentence. */
final class TextSentences extends Names {
    private static final String HUNDRED = "np".repeat(50);

    private TextSentences() {
    }

    static void all() {
        text();
        blanks();
        program();
        moves();
        numbers();
        times();
        meaning();
        ranges();
        places();
        firstError();
        constants();
    }

    /** The text has this error. */
    static void error(String text, int kind, int place) {
        Try.still("kind of " + text, bench -> Try.write(bench, text), kind, CursorBench::errorKind);
        Try.still("place of " + text, bench -> Try.write(bench, text), place, CursorBench::errorPlace);
    }

    static void right(String... texts) {
        for (String text : texts) {
            error(text, 0, NONE);
        }
    }

    /** A LIST cursor that stands in front of 1 to 5 makes so many moves, and leaves this row. */
    static void plays(String text, int moves, String row) {
        for (int kept : LISTS) {
            Try.due("play of " + text, "[" + moves + ", " + row + "]", bench -> {
                bench.fill(kept, 1, 1, 5);
                bench.open(2, kept, LIST, 0);
                Try.write(bench, text);
                return Try.list(bench.play(2), Shown.row(bench, kept));
            });
        }
    }

    private static void text() {
        Sentence.of("Programs", "The text (bytes from 1 to 255, at most 100) can be a program of moves.", () -> {
            for (int one = 1; one <= 255; one++) {
                long typed = one;
                Try.due("byte " + one, 1, bench -> bench.type(typed));
            }
            Try.due("0 is none", "[0, 1]", bench -> Try.list(bench.type(0), bench.type('n' << 8)));
            error("\u0001", 1, 0);
            error("n\u00ff", 1, 1);
            Try.due("100", 100, bench -> {
                Try.write(bench, HUNDRED);
                return bench.textLength();
            });
            right(HUNDRED);
            plays(HUNDRED, 100, "[1, 2, 3, 4, 5]");
            Try.fails("101", bench -> {
                Try.busy(bench);
                Try.write(bench, HUNDRED);
            }, STATE, bench -> bench.type('n'));
        });
    }

    private static void blanks() {
        Sentence.of("Programs", "Blanks (32) can stand ahead of, between and behind signs, but not within a number, "
                + "and mean nothing.", () -> {
            right(" ", " ".repeat(100), " n", "n ", "n  p", "s 5", "s5 ", "s -5", "2 (n)", "2( n)", "2(n )", "2(n) ",
                    " 2 ( n 2 ( ) ) ", "s 5 2 ( a 3 )");
            error("s- 5", 1, 2);
            error("s1 0", 1, 4);
            error("s1 0n", 1, 4);
            error("1 0(n)", 1, 2);
            error("2 0 (n)", 1, 2);
            error("a-1 2", 1, 5);
            for (int other : new int[] {9, 10, 13, 31, 33, 160}) {
                error("n" + (char) other + "n", 1, 1);
            }
            plays(" n   n  ", 2, "[1, 2, 3, 4, 5]");
            plays(" n s  7 n r 2  ( a  -8 ) ", 6, "[7, -8, -8, 3, 4, 5]");
            plays("  ", 0, "[1, 2, 3, 4, 5]");
        });
    }

    private static void program() {
        Sentence.of("Programs", "program = { move }", () -> {
            right("", "n", "nn", HUNDRED);
            plays("", 0, "[1, 2, 3, 4, 5]");
            plays("nrnr", 4, "[3, 4, 5]");
            error("nx", 1, 1);
            error("n" + "p".repeat(98) + "x", 1, 99);
        });
    }

    private static void moves() {
        Sentence.of("Programs", "move = \"n\" | \"p\" | \"r\" | \"s\" number | \"a\" number | times \"(\" { move } "
                + "\")\"", () -> {
            right("n", "p", "r", "s1", "a1", "1()", "1(n)", "1(nprs1a1)", "1(1())", "1(1(1(n)))", "1(1()1())1()");
            for (int sign = 1; sign <= 255; sign++) {
                boolean isMove = sign == 'n' || sign == 'p' || sign == 'r' || sign == ' ';
                boolean isBegun = sign == 's' || sign == 'a' || sign >= '0' && sign <= '9';
                error("" + (char) sign, isMove ? 0 : 1, isMove ? NONE : isBegun ? 1 : 0);
                if (sign == ')') {
                    right("1()");
                } else {
                    error("1(" + (char) sign, 1, isMove || isBegun ? 3 : 2);
                }
            }
            error("sn", 1, 1);
            error("as", 1, 1);
            error("s)", 1, 1);
            error("s(", 1, 1);
            error("n5", 1, 2);
            error("n5n", 1, 2);
            error("n-5", 1, 1);
            error("(n)", 1, 0);
            error("n)", 1, 1);
            error("1n", 1, 1);
            error("1)", 1, 1);
            error("1(n))", 1, 4);
            error("1(n", 1, 3);
            error("1((n))", 1, 2);
            error("1(1)", 1, 3);
            error("1(s)", 1, 3);
        });
    }

    private static void numbers() {
        Sentence.of("Programs", "number = [ \"-\" ] digit { digit }", () -> {
            right("s0", "s9", "s-0", "s-9", "s10", "s007", "a-0010");
            error("s", 1, 1);
            error("s-", 1, 2);
            error("s--5", 1, 2);
            error("s+5", 1, 1);
            error("s5-", 1, 2);
            error("s5-5", 1, 2);
            // All digits that stand side by side are one number: no times are left over for a bracket.
            error("s55(n)", 1, 3);
            error("a-12()", 1, 4);
            error("s-n", 1, 2);
            error("s-(", 1, 2);
            error("s/", 1, 1);
            error("s:", 1, 1);
            error("s5/", 1, 2);
            error("s5:", 1, 2);
            plays("ns0s9s-9s010", 5, "[10, 2, 3, 4, 5]");
            plays("a-0a-10a007", 3, "[0, -10, 7, 1, 2, 3, 4, 5]");
        });
    }

    private static void times() {
        Sentence.of("Programs", "times = digit { digit }", () -> {
            right("0(n)", "1(n)", "9(n)", "00(n)", "03(n)", "010(n)");
            error("-1(n)", 1, 0);
            error("+1(n)", 1, 0);
            error("1-(n)", 1, 1);
            error("1", 1, 1);
            error("11", 1, 2);
            error("1s5", 1, 1);
            error("1 1(n)", 1, 2);
            plays("03(n)r", 4, "[1, 2, 4, 5]");
            plays("0(n)1(n)r", 2, "[2, 3, 4, 5]");
            plays("00000000010(np)", 20, "[1, 2, 3, 4, 5]");
        });
    }

    private static void meaning() {
        Sentence.of("Programs", "\"n\" goes on, \"p\" goes back, \"r\" removes, \"s\" replaces by a number, \"a\" "
                + "inserts one, and brackets hold moves that are done as many times as told.", () -> {
            plays("nn", 2, "[1, 2, 3, 4, 5]");
            plays("nns7", 3, "[1, 7, 3, 4, 5]");
            plays("nnps7", 4, "[1, 7, 3, 4, 5]");
            plays("nnpps-7", 5, "[-7, 2, 3, 4, 5]");
            plays("nnr", 3, "[1, 3, 4, 5]");
            plays("na7a8", 3, "[1, 7, 8, 2, 3, 4, 5]");
            plays("0(nr)", 0, "[1, 2, 3, 4, 5]");
            plays("1(nr)", 2, "[2, 3, 4, 5]");
            plays("5(nr)", 10, "[]");
            plays("20(a7)", 20, "[" + "7, ".repeat(20) + "1, 2, 3, 4, 5]");
            plays("2(n2(a7)0(r))", 6, "[1, 7, 7, 2, 7, 7, 3, 4, 5]");
            plays("2(2(2(a7n)p))", 20, "[7, 1, 7, 7, 2, 7, 7, 3, 7, 7, 4, 7, 5]");
            plays("2()n20(20(20()))r", 2, "[2, 3, 4, 5]");
            plays("0(20(20(n)))nr", 2, "[2, 3, 4, 5]");
            plays("2(0(n)a7)", 2, "[7, 7, 1, 2, 3, 4, 5]");
        });
    }

    private static void ranges() {
        Sentence.of("Programs", "A number must be -999 to 999, times must be 0 to 20.", () -> {
            right("s999", "s-999", "a999", "a-999", "s0", "0(n)", "20(n)", "020(n)", "s000000999", "a-000000999");
            for (String sign : new String[] {"s", "a"}) {
                error(sign + "1000", 2, 1);
                error(sign + "-1000", 2, 1);
                error(sign + "01000", 2, 1);
                error(sign + "9990", 2, 1);
                error(sign + "4294967296", 2, 1);
                error(sign + "-4294967295", 2, 1);
                error(sign + "18446744073709551617", 2, 1);
                error(sign + "9".repeat(99), 2, 1);
                error(sign + "1" + "0".repeat(98), 2, 1);
                right(sign + "0".repeat(98) + "5");
            }
            error("21(n)", 2, 0);
            error("021(n)", 2, 0);
            error("30(n)", 2, 0);
            error("100(n)", 2, 0);
            error("200(n)", 2, 0);
            error("4294967296(n)", 2, 0);
            error("18446744073709551617(n)", 2, 0);
            error("1" + "0".repeat(97) + "()", 2, 0);
            right("0".repeat(97) + "5()");
            plays("ns999", 2, "[999, 2, 3, 4, 5]");
            plays("a-999", 1, "[-999, 1, 2, 3, 4, 5]");
            plays("20(np)", 40, "[1, 2, 3, 4, 5]");
        });
    }

    private static void places() {
        Sentence.of("Programs", "An error has a kind and a place (bytes of the text are numbered from 0).", () -> {
            error("x", 1, 0);
            error("nx", 1, 1);
            error("n".repeat(99) + "x", 1, 99);
            error("n".repeat(99) + "s", 1, 100);
            error(" ".repeat(95) + "s1000", 2, 96);
            error(" ".repeat(98) + "21", 2, 98);
            right("n");
            Try.due("in a text that came in two calls", 9, bench -> {
                bench.type(0x6e6e6e6e6e6e6e6eL);
                bench.type(0x6e2e);
                return bench.errorPlace();
            });
        });
    }

    private static void firstError() {
        Sentence.of("Programs", "The text is read from the front, and the first error is told: kind 1, a byte that "
                + "cannot stand there, at its place, or, if the text ends too early, its length; kind 2, at its "
                + "first byte (a minus, if it has one), a number or times out of range; kind 2, too, at its place, a "
                + "\"(\" that could stand there, but within three others that are open.", () -> {
            error("xs1000", 1, 0);
            error("s1000x", 2, 1);
            error("s1000-", 2, 1);
            error("s1000(", 2, 1);
            error("21x", 2, 0);
            error("21n(", 2, 0);
            error("21)", 2, 0);
            error("x1(", 1, 0);
            error("n x 21(n)", 1, 2);
            error("21(n) x", 2, 0);
            tooEarly();
            atFirstByte();
            openBrackets();
        });
    }

    private static void tooEarly() {
        error("s", 1, 1);
        error("s ", 1, 2);
        error("s-", 1, 2);
        error("a", 1, 1);
        error("a   ", 1, 4);
        error("2", 1, 1);
        error("20  ", 1, 4);
        error("2(", 1, 2);
        error("2(n", 1, 3);
        error("2(n  ", 1, 5);
        error("2(s", 1, 3);
        error("2(3", 1, 3);
        error("1(1(1(", 1, 6);
        error("1(1(1(n))", 1, 9);
        error("1(1(1(1", 1, 7);
        error("1(".repeat(3) + "n".repeat(94), 1, 100);
        // A number that is out of range is so, whatever comes behind it.
        error("s1000", 2, 1);
        error("21", 2, 0);
        error("1(21", 2, 2);
    }

    private static void atFirstByte() {
        error("s-1000", 2, 1);
        error("s  -1000", 2, 3);
        error("s  1000", 2, 3);
        error("n a-0001000 n", 2, 3);
        error("  21 (n)", 2, 2);
        error("1( 0021(n))", 2, 3);
        error("s5s-1000s-2000", 2, 3);
        error("0(s1000)", 2, 3);
        error("0(21(n))", 2, 2);
    }

    private static void openBrackets() {
        right("1(1(1()))", "1(1(1(n)))", "1(1(1()1()))", "1(1(1())1(1()))", "1(1(1()))1(1(1()))");
        error("1(1(1(1(n))))", 2, 7);
        error("1(1(1(1(", 2, 7);
        error("1(1(1( 1 (", 2, 9);
        error("1(1(1()1(1(", 2, 10);
        error("1(1(1()))1(1(1(1(", 2, 16);
        error("0(0(0(0(", 2, 7);
        error("1(1(1(n20(x", 2, 9);
        // Ahead of it, or where none could stand, there is an error of another sort.
        error("1(1(1(21(", 2, 6);
        error("1(1(1((", 1, 6);
        error("1(1(1(n(", 1, 7);
        error("1(1(1(s(", 1, 7);
        error("1(1(1(s5(", 1, 8);
        error("1(1(1(1n", 1, 7);
        error("1(1(1(1)", 1, 7);
        error("1(1(1(x1(", 1, 6);
    }

    private static void constants() {
        constant("The constants: `NONE = -1`: There is none.", "[-1]", NONE);
        constant("`ARRAY = 0, LINKED = 1, SORTED = 2, DEQUE = 3`: The rows.", "[0, 1, 2, 3]", ARRAY, LINKED, SORTED,
                DEQUE);
        constant("`LIST = 0, VIEW = 1, FORTH = 2, BACK = 3`: Kinds of cursors.", "[0, 1, 2, 3]", LIST, VIEW, FORTH,
                BACK);
        constant("`NO_ELEMENT = -10001, NO_STATE = -10002, UNSUPPORTED = -10003`: Why a call of a cursor is refused.",
                "[-10001, -10002, -10003]", NO_ELEMENT, NO_STATE, UNSUPPORTED);
    }

    private static void constant(String text, String want, Object... values) {
        Sentence.of("Programs", text, () -> Check.due("values", Try.list(values), want));
    }
}
