/** Promises 30 to 36: the text, its errors, and playing it. */
public final class ProgramsTest extends Names {
    public static void main(String[] args) {
        promise30();
        promise31And32();
        promise33();
        rightTexts();
        forbiddenBytes();
        textsThatEndTooEarly();
        outOfRange();
        firstErrors();
        wholeTexts();
        everyByte();
        promise36();
        promise36Stops();
        promise36Limits();
        promise36Refused();
        promise36Cursors();
        Check.end("ProgramsTest");
    }

    /** Sets the text, a byte a call. */
    static void write(CursorBench bench, String text) {
        bench.clearText();
        for (int index = 0; index < text.length(); index++) {
            bench.type(text.charAt(index));
        }
    }

    private static void error(String text, int kind, int place) {
        CursorBench bench = new CursorBench();
        write(bench, text);
        Check.still("kind of " + text, bench, kind, bench::errorKind);
        Check.still("place of " + text, bench, place, bench::errorPlace);
    }

    private static void right(String text) {
        error(text, 0, NONE);
    }

    private static void promise30() {
        CursorBench bench = new CursorBench();
        Check.due("type", bench.type(('n' << 8) | 'p'), 2);
        Check.due("type without those that are 0", bench.type(((long) 's' << 56) | ((long) '7' << 24)), 4);
        Check.due("type 0", bench.type(0), 4);
        bench.fill(LINKED, 1, 1, 3);
        bench.open(0, LINKED, LIST, 0);
        Check.due("they came in their order", bench.play(0), 3);
        Check.due("they came in their order", Shown.row(bench, LINKED), "[7, 2, 3]");
        Check.due("type 8 bytes", bench.type(-1L), 12);
        Check.due("a byte of 255", bench.errorPlace(), 4);
        for (int length = 20; length <= 92; length += 8) {
            Check.due("type", bench.type(0x6e6e6e6e6e6e6e6eL), length);
        }
        Check.due("a text of 92", bench.textLength(), 92);
        bench.type(0x6e6e6e6e6e6e6e6eL);
        Check.fails("8 bytes to 100", bench, STATE, () -> bench.type(0x6e6e6e6e6e6e6e6eL));
        write(bench, "12345678".repeat(11) + "1234");
        Check.due("type 7 bytes", bench.type(0x6e6e6e006e6e6e6eL), 99);
        Check.fails("one too many", bench, STATE, () -> bench.type(0x6e006eL));
        Check.fails("seven too many", bench, STATE, () -> bench.type(Long.MAX_VALUE));
        Check.due("the 100th", bench.type(0x6e00000000L), 100);
        Check.fails("the 101st", bench, STATE, () -> bench.type(1));
        Check.still("type 0 to 100", bench, 100, () -> bench.type(0));
        CursorBench other = new CursorBench();
        Check.due("the least number", other.type(Long.MIN_VALUE), 1);
        Check.due("its byte is 128", other.errorPlace(), 0);
    }

    private static void promise31And32() {
        CursorBench bench = new CursorBench();
        Check.still("clearText of none", bench, 0, bench::clearText);
        bench.type(0x6e6e2e);
        Check.still("textLength", bench, 3, bench::textLength);
        Check.due("clearText", bench.clearText(), 3);
        Check.due("cleared", bench.textLength(), 0);
        Check.due("cleared", bench.errorKind(), 0);
        bench.type('n');
        Check.due("behind clearText", bench.textLength(), 1);
    }

    private static void promise33() {
        CursorBench bench = new CursorBench();
        int[] lengths = {28, 23, 35};
        for (int which = 0; which < 3; which++) {
            bench.clearText();
            bench.type(0x2e2e2e);
            Check.due("example", bench.example(which), lengths[which]);
            Check.due("its length", bench.textLength(), lengths[which]);
            Check.due("it is right", bench.errorKind(), 0);
            Check.due("it is right", bench.errorPlace(), NONE);
        }
        playExamples();
        Check.fails("example below", bench, BAD, () -> bench.example(-1));
        Check.fails("example above", bench, BAD, () -> bench.example(3));
        Check.fails("example most", bench, BAD, () -> bench.example(Integer.MAX_VALUE));
        Check.fails("example least", bench, BAD, () -> bench.example(Integer.MIN_VALUE));
    }

    private static void playExamples() {
        CursorBench bench = new CursorBench();
        bench.fill(ARRAY, 1, 1, 5);
        bench.open(0, ARRAY, LIST, 0);
        bench.example(0);
        // Nine moves leave 7 -5 | 3 4 5, nine more 7 -5 7 -5 | 5, then one n is made and one is refused.
        Check.due("example 0", bench.play(0), 9 + 9 + 1);
        Check.due("example 0", Shown.row(bench, ARRAY), "[7, -5, 7, -5, 5]");
        Check.due("example 0", bench.nextPlace(0), 5);
        bench.fill(LINKED, 1, 1, 3);
        bench.open(1, LINKED, LIST, 0);
        bench.example(1);
        Check.due("example 1", bench.play(1), 23);
        Check.due("example 1", Shown.row(bench, LINKED), "[1, 1, 2, 1, 3, 1]");
        bench.fill(LINKED, 1, 1, 10);
        bench.open(1, LINKED, LIST, 0);
        bench.example(2);
        // The numbers at the places 1 and 2 are replaced, the second 99 goes, then the seven numbers behind it.
        Check.due("example 2", bench.play(1), 12 + 1 + 14);
        Check.due("example 2", Shown.row(bench, LINKED), "[1, 99]");
    }

    private static void rightTexts() {
        right("");
        right("   ");
        right("n");
        right("nprs1a2");
        right(" n p  r s 1 a -2 0 ( ) ");
        right("s1 2(n)");
        right("s 999a-999");
        right("s-0a000000000000000000000000000000000999");
        right("20(20(20(n)))");
        right("0(n)00000020 ( n )");
        right("1(1(1()1())1(1()))1(1(1()))");
        right("s5n");
        right("s5 5()");
    }

    private static void forbiddenBytes() {
        error("x", 1, 0);
        error("N", 1, 0);
        error("  x", 1, 2);
        error("n\tn", 1, 1);
        error("n\u00ff", 1, 1);
        error("\u0001", 1, 0);
        error("-5(n)", 1, 0);
        error("(n)", 1, 0);
        error(")", 1, 0);
        error("n)", 1, 1);
        error("1(n))", 1, 4);
        error("sn", 1, 1);
        error("s n", 1, 2);
        error("a(", 1, 1);
        error("a)", 1, 1);
        error("a+5", 1, 1);
        error("s--5", 1, 2);
        error("s- 5", 1, 2);
        error("s -n", 1, 3);
        error("s5-", 1, 2);
        error("s5-3", 1, 2);
        error("s5(n)", 1, 2);
        error("s5 (n)", 1, 3);
        error("3n", 1, 1);
        error("3 3(n)", 1, 2);
        error("3)", 1, 1);
        error("1(3)", 1, 3);
        error("1(s)", 1, 3);
        error("3-(n)", 1, 1);
    }

    private static void textsThatEndTooEarly() {
        error("s", 1, 1);
        error("a  ", 1, 3);
        error("s-", 1, 2);
        error("s 1 2", 1, 5);
        error("3", 1, 1);
        error("20  ", 1, 4);
        error("3(", 1, 2);
        error("3(n", 1, 3);
        error("3(n 2(p) ", 1, 9);
        error("1(1(1(n))", 1, 9);
    }

    private static void outOfRange() {
        error("s1000", 2, 1);
        error("s -1000 ", 2, 2);
        error("a  00001000n", 2, 3);
        error("s99999999999999999999999999999", 2, 1);
        error("s4294967297", 2, 1);
        error("a-18446744073709551617", 2, 1);
        error("21(n)", 2, 0);
        error(" 021(n)", 2, 1);
        error("100(n)", 2, 0);
        error("4294967297(n)", 2, 0);
        error("21", 2, 0);
        error("21x", 2, 0);
        error("n 99 x", 2, 2);
        error("1(1(1(1(n))))", 2, 7);
        error("1(1(1(n 20 ( n))))", 2, 11);
        error("1(1(1()2(0(", 2, 10);
        error("1(1(1(1(", 2, 7);
    }

    private static void firstErrors() {
        error("x s1000", 1, 0);
        error("s1000 x", 2, 1);
        error("1(1(1(21(n", 2, 6);
        error("1(1(1(1n", 1, 7);
        error("1(1(1(1", 1, 7);
        error("1(1(1(1 x", 1, 8);
        error("2(s1000", 2, 3);
        error("1(1(1((", 1, 6);
        error("s1000-", 2, 1);
    }

    /** All 100 bytes are read, and none that stood there before the text was emptied. */
    private static void wholeTexts() {
        error("n".repeat(99) + "x", 1, 99);
        error("n".repeat(99) + "s", 1, 100);
        error(" ".repeat(98) + "n2", 1, 100);
        right("np".repeat(50));
        CursorBench bench = new CursorBench();
        write(bench, "s5n2(n)");
        write(bench, "s");
        Check.due("the number is gone", bench.errorPlace(), 1);
        write(bench, "s5n2");
        Check.due("the bracket is gone", bench.errorPlace(), 4);
        bench.example(0);
        bench.example(1);
        Check.due("the longer example is gone", bench.errorPlace(), NONE);
        bench.clearText();
        bench.type(' ');
        Check.due("all is gone", bench.errorPlace(), NONE);
        bench.fill(LINKED, 1, 1, 1);
        bench.open(0, LINKED, LIST, 0);
        write(bench, "np".repeat(50));
        Check.due("100 moves", bench.play(0), 100);
    }

    /** Of all bytes, just those of the grammar can begin a program of one byte. */
    private static void everyByte() {
        for (int sign = 1; sign <= 255; sign++) {
            CursorBench bench = new CursorBench();
            bench.type(sign);
            boolean isRight = sign == ' ' || sign == 'n' || sign == 'p' || sign == 'r';
            boolean isShort = sign == 's' || sign == 'a' || sign >= '0' && sign <= '9';
            Check.due("kind of byte " + sign, bench.errorKind(), isRight ? 0 : 1);
            Check.due("place of byte " + sign, bench.errorPlace(), isRight ? -1 : isShort ? 1 : 0);
        }
    }

    private static void play(String text, int moves, String row, int place) {
        for (int kept = ARRAY; kept <= LINKED; kept++) {
            CursorBench bench = new CursorBench();
            bench.fill(kept, 1, 1, 5);
            bench.open(3, kept, LIST, 0);
            write(bench, text);
            Check.due("play " + text, bench.play(3), moves);
            Check.due("row of " + text, Shown.row(bench, kept), row);
            Check.due("cursor of " + text, bench.nextPlace(3), place);
        }
    }

    private static void promise36() {
        play("", 0, "[1, 2, 3, 4, 5]", 0);
        play("  ", 0, "[1, 2, 3, 4, 5]", 0);
        play("nn", 2, "[1, 2, 3, 4, 5]", 2);
        play("nnpp", 4, "[1, 2, 3, 4, 5]", 0);
        play("n r n r", 4, "[3, 4, 5]", 0);
        play("n s 9 n s-9", 4, "[9, -9, 3, 4, 5]", 2);
        play("a 7 a 8 n a-999", 4, "[7, 8, 1, -999, 2, 3, 4, 5]", 4);
        play("0(n)n0(r)", 1, "[1, 2, 3, 4, 5]", 1);
        play("3(n)r", 4, "[1, 2, 4, 5]", 2);
        play("2(n2(a0))", 6, "[1, 0, 0, 2, 0, 0, 3, 4, 5]", 6);
        play("2(2(n)0(n)1(p)n)", 8, "[1, 2, 3, 4, 5]", 4);
        play("2(0(n)a1)n", 3, "[1, 1, 1, 2, 3, 4, 5]", 3);
        play("20(20(20()))n", 1, "[1, 2, 3, 4, 5]", 1);
        play("2(nr2(a5p))", 12, "[5, 5, 5, 2, 3, 4, 5]", 0);
        play("5(n)5(p)", 10, "[1, 2, 3, 4, 5]", 0);
        play("2(1(0(n)s1)n)", 0, "[1, 2, 3, 4, 5]", 0);
    }

    private static void promise36Stops() {
        play("p", 0, "[1, 2, 3, 4, 5]", 0);
        play("nnpr r n", 4, "[1, 3, 4, 5]", 1);
        play("r", 0, "[1, 2, 3, 4, 5]", 0);
        play("s3", 0, "[1, 2, 3, 4, 5]", 0);
        play("na1s3n", 2, "[1, 1, 2, 3, 4, 5]", 2);
        play("20(n)p", 5, "[1, 2, 3, 4, 5]", 5);
        play("3(4(n))r", 5, "[1, 2, 3, 4, 5]", 5);
        play("20(n r)", 10, "[]", 0);
    }

    private static void promise36Limits() {
        for (int row = ARRAY; row <= LINKED; row++) {
            CursorBench bench = new CursorBench();
            bench.fill(row, 1, 1, 38);
            bench.open(0, row, LIST, 38);
            write(bench, "pa1a2a3r");
            Check.due("40 numbers end it", bench.play(0), 3);
            Check.due("40 numbers", bench.size(row), 40);
            Check.due("where it stands", bench.nextPlace(0), 39);
            write(bench, "a1");
            Check.still("none can be made", bench, 0, () -> bench.play(0));
            bench.next(0);
            write(bench, "ra9");
            Check.due("room again", bench.play(0), 2);
        }
        CursorBench bench = new CursorBench();
        bench.fill(ARRAY, 1, 1, 1);
        bench.open(0, ARRAY, LIST, 0);
        write(bench, "20(20(20(n p)))");
        Check.due("300 end it", bench.play(0), 300);
        Check.due("where it stands", bench.nextPlace(0), 0);
        write(bench, "10(10(n s5 p))s7");
        Check.due("300 end it, just", bench.play(0), 300);
        Check.due("not the 301st", bench.at(ARRAY, 0), 5);
        write(bench, "10(10(n s5 p))0(20(20(n)))");
        Check.due("just 300", bench.play(0), 300);
        write(bench, "0(20(20(20(n))))");
        Check.due("too deep", bench.errorKind(), 2);
        write(bench, "0(20(20(n)))np");
        Check.due("none of very many", bench.play(0), 2);
        write(bench, "n p 13(23(n p");
        Check.due("two errors", bench.errorPlace(), 7);
        write(bench, "n p 13(n p 11(n p n p n p n p))n");
        Check.due("299 and one", bench.play(0), 300);
    }

    private static void promise36Refused() {
        CursorBench bench = new CursorBench();
        bench.fill(LINKED, 1, 1, 5);
        bench.open(0, LINKED, LIST, 0);
        write(bench, "nx");
        Check.fails("an error", bench, STATE, () -> bench.play(0));
        write(bench, "n2(n");
        Check.fails("a short text", bench, STATE, () -> bench.play(0));
        write(bench, "n21(n)");
        Check.fails("out of range", bench, STATE, () -> bench.play(0));
        for (int slot : new int[] {-1, 5, Integer.MIN_VALUE, Integer.MAX_VALUE}) {
            Check.fails("no slot", bench, NO_PLACE, () -> bench.play(slot));
        }
        write(bench, "");
        Check.fails("an empty slot", bench, STATE, () -> bench.play(1));
    }

    private static void promise36Cursors() {
        CursorBench bench = new CursorBench();
        for (int row = 0; row < Shown.ROWS; row++) {
            bench.fill(row, 1, 1, 5);
            bench.open(0, row, FORTH, 0);
            write(bench, "2(nnr)a1");
            Check.due("FORTH", bench.play(0), 6);
            Check.due("FORTH", Shown.row(bench, row), "[1, 3, 5]");
            write(bench, "ns1");
            Check.due("FORTH replaces none", bench.play(0), 1);
            bench.open(0, row, FORTH, 0);
            write(bench, "np");
            Check.due("FORTH goes not back", bench.play(0), 1);
        }
        bench.fill(DEQUE, 1, 1, 5);
        bench.open(1, DEQUE, BACK, 0);
        bench.open(2, DEQUE, BACK, 0);
        bench.open(3, SORTED, FORTH, 0);
        write(bench, "2(nnr)p");
        Check.due("BACK", bench.play(1), 6);
        Check.due("BACK", Shown.row(bench, DEQUE), "[1, 3, 5]");
        Check.due("other cursors of the row are gone", Shown.standing(bench), "1 3");
        bench.fill(LINKED, 1, 1, 5);
        bench.open(0, LINKED, VIEW, 2);
        bench.open(2, LINKED, LIST, 2);
        for (String end : new String[] {"r", "s1", "a1"}) {
            write(bench, "np" + end);
            Check.still("VIEW", bench, 2, () -> bench.play(0));
        }
        write(bench, "na1");
        Check.due("LIST inserts", bench.play(2), 2);
        Check.due("the other is gone", Shown.standing(bench), "1 2 3");
        write(bench, "pr");
        bench.play(2);
        Check.due("what was told in a text", bench.remove(2), NO_STATE);
        write(bench, "n");
        bench.play(2);
        Check.due("what was told in a text stays told", bench.remove(2), 4);
    }
}
