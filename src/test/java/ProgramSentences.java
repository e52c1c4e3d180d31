/** Promises 30 to 36, sentence by sentence; the grammar and its errors stand in TextSentences. */
final class ProgramSentences extends Names {
    private static final long EIGHT = 0x6e706e706e706e70L;

    private ProgramSentences() {
    }

    static void all() {
        promise30();
        promise31And32();
        promise33();
        promise34();
        promise35();
        promise36();
        promise36Counts();
        promise36Throws();
    }

    /** A text of so many bytes. */
    private static Try.Calls textOf(int length) {
        return bench -> {
            Try.busy(bench);
            Try.write(bench, "n".repeat(length));
        };
    }

    private static void promise30() {
        Sentence.of("Promise 30", "Puts bytes behind the text: those of a number, the highest one first, without "
                + "those that are 0.", () -> {
            types("s5", 's' << 8 | '5', "[5, 2, 3]");
            types("s5, with 0", (long) 's' << 56 | '5', "[5, 2, 3]");
            types("s5, with 0 behind", (long) 's' << 56 | (long) '5' << 24, "[5, 2, 3]");
            types("s12 3()", 0x7331322033282900L, "[12, 2, 3]");
            types("eight", 0x73313233202020L << 8 | ' ', "[123, 2, 3]");
            Try.due("behind", "[4, [57, 2, 3]]", bench -> {
                bench.fill(LINKED, 1, 1, 3);
                bench.open(2, LINKED, LIST, 0);
                bench.type('n');
                bench.type('s');
                bench.type('5' << 8 | '7');
                int length = bench.textLength();
                bench.play(2);
                return Try.list(length, Shown.row(bench, LINKED));
            });
        });
        Sentence.of("Promise 30", "- `bytes`: the number", () -> {
            Try.due("0", 0, bench -> bench.type(0));
            Try.due("-1", 8, bench -> bench.type(-1));
            Try.due("the least", 1, bench -> bench.type(Long.MIN_VALUE));
            Try.due("the most", 8, bench -> bench.type(Long.MAX_VALUE));
            Try.due("an int below 0", 8, bench -> bench.type(Integer.MIN_VALUE | 0x010101));
            for (int shift = 0; shift < 64; shift += 8) {
                long typed = 255L << shift;
                Try.due("one byte, up by " + shift, "[1, 1, 0]", bench ->
                        Try.list(bench.type(typed), bench.errorKind(), bench.errorPlace()));
            }
        });
        Sentence.of("Promise 30", "Returns the length of the text.", () -> {
            Try.due("as it grows", "[1, 3, 3, 11]", bench ->
                    Try.list(bench.type('n'), bench.type('n' << 8 | 'n'), bench.type(0), bench.type(EIGHT)));
            for (int length : new int[] {92, 93, 99}) {
                long typed = EIGHT >>> 8 * (length - 92);
                Try.due("to 100", 100, bench -> {
                    textOf(length).on(bench);
                    return bench.type(typed);
                });
            }
            Try.still("no byte to 100", textOf(100), 100, bench -> bench.type(0));
        });
        Sentence.of("Promise 30", "Throws `IllegalStateException` if it would be above 100", () -> {
            Try.fails("8 to 93", textOf(93), STATE, bench -> bench.type(EIGHT));
            Try.fails("2 to 99", textOf(99), STATE, bench -> bench.type(0x6e6eL));
            Try.fails("2 with 0 to 99", textOf(99), STATE, bench -> bench.type(0x6e0000000000006eL));
            Try.fails("1 to 100", textOf(100), STATE, bench -> bench.type('n'));
            Try.fails("1 above to 100", textOf(100), STATE, bench -> bench.type((long) 'n' << 56));
            Try.fails("a byte of 1 to 100", textOf(100), STATE, bench -> bench.type(1));
            Try.fails("a byte of 255 to 100", textOf(100), STATE, bench -> bench.type(255));
            Try.fails("a byte of 128 above to 100", textOf(100), STATE, bench -> bench.type(Long.MIN_VALUE));
            Try.fails("bytes of 1 to 93", textOf(93), STATE, bench -> bench.type(0x0101010101010101L));
            Try.fails("bytes of 128 to 93", textOf(93), STATE, bench -> bench.type(0x8080808080808080L));
            Try.fails("a blank to 100", textOf(100), STATE, bench -> bench.type(' '));
            Try.due("1 with 0 to 99", 100, bench -> {
                textOf(99).on(bench);
                return bench.type(0x6e00000000L);
            });
        });
    }

    /** The bytes are a text that a cursor in front of 1, 2 and 3 plays, one number behind n. */
    private static void types(String what, long bytes, String want) {
        Try.due(what, want, bench -> {
            bench.fill(ARRAY, 1, 1, 3);
            bench.open(2, ARRAY, LIST, 0);
            bench.type('n');
            bench.type(bytes);
            bench.play(2);
            return Shown.row(bench, ARRAY);
        });
    }

    private static void promise31And32() {
        Sentence.of("Promise 31", "Empties the text.", () -> {
            for (int length : new int[] {0, 1, 100}) {
                Try.due("of " + length, "[0, 0, -1]", bench -> {
                    Try.write(bench, "x".repeat(length));
                    bench.clearText();
                    return Try.list(bench.textLength(), bench.errorKind(), bench.errorPlace());
                });
            }
            Try.due("none of it comes back", "[1, 1, 1]", bench -> {
                Try.write(bench, "s5n");
                bench.clearText();
                return Try.list(bench.type('s'), bench.errorKind(), bench.errorPlace());
            });
            Try.due("all else stays", "[0 1 2 3 4, [10, 20, 30, 40, 50]]", bench -> {
                Try.busy(bench);
                bench.clearText();
                return Try.list(Shown.standing(bench), Shown.row(bench, ARRAY));
            });
        });
        Sentence.of("Promise 31", "Returns its length before.", () -> {
            Try.due("of none", 0, CursorBench::clearText);
            Try.due("of 100, and again", "[100, 0]", bench -> {
                textOf(100).on(bench);
                return Try.list(bench.clearText(), bench.clearText());
            });
        });
        Sentence.of("Promise 32", "Returns the length of the text.", () -> {
            for (int length : new int[] {0, 1, 99, 100}) {
                Try.still("of " + length, textOf(length), length, CursorBench::textLength);
            }
        });
        Sentence.of("Promise 32", "Returns its length.", () -> {
            Try.due("as it comes and goes", "[0, 2, 28, 0]", bench -> Try.each(bench, CursorBench::textLength,
                    b -> b.type(0x2020) * 0 + b.textLength(), b -> b.example(0) * 0 + b.textLength(),
                    b -> b.clearText() * 0 + b.textLength()));
        });
    }

    private static void promise33() {
        Sentence.of("Promise 33", "Replaces the text by one of these programs:", () -> {
            for (int which = 0; which <= 2; which++) {
                int asked = which;
                for (int length : new int[] {0, 1, 35, 100}) {
                    Try.due("a text of " + length, 0, bench -> {
                        Try.write(bench, "x".repeat(length));
                        bench.example(asked);
                        return bench.errorKind();
                    });
                }
            }
        });
        example(0, "10( n n r a -5 p p s 7 n n )");
        example(1, "3(n a1 a2 p r)4(p)20(n)");
        example(2, "2( 3( n ) 2( p ) s 99 ) r 20( n r )");
        Sentence.of("Promise 33", "- `which`: 0 to 2", () -> {
            SameSentences.isTaken(new int[] {0, 1, 2}, CursorBench::example);
            SameSentences.isBad(new int[] {-1, 3}, CursorBench::example);
        });
        Sentence.of("Promise 33", "Returns the length of the text.", () -> {
            Try.due("each", "[28, 23, 35]", bench -> Try.list(bench.example(0), bench.example(1), bench.example(2)));
        });
        Sentence.of("Promise 33", "Throws `IllegalArgumentException` if which is out of range", () -> {
            SameSentences.isBad(new int[] {-1, 3, Integer.MIN_VALUE, Integer.MAX_VALUE}, CursorBench::example);
        });
    }

    /** The example is this text, as cursors of rows of each length show, and the places of errors behind it. */
    private static void example(int which, String text) {
        Sentence.of("Promise 33", which + ": " + text, () -> {
            Try.due("its length", text.length(), bench -> bench.example(which));
            for (int row : LISTS) {
                for (int many = 0; many <= 40; many++) {
                    int count = many;
                    Try.due("played over " + many, true, bench -> {
                        bench.example(which);
                        return playOver(bench, row, count).equals(playOver(written(text), row, count));
                    });
                }
            }
        });
    }

    private static CursorBench written(String text) {
        CursorBench bench = new CursorBench();
        Try.write(bench, text);
        return bench;
    }

    private static String playOver(CursorBench bench, int row, int many) {
        Try.cursor(row, LIST, many, many / 3, "").on(bench);
        return bench.play(2) + Shown.row(bench, row) + bench.nextPlace(2) + bench.textLength();
    }

    private static void promise34() {
        Sentence.of("Promise 34", "Returns the kind of the error of the text as a program.", () -> {
            kindOf("x", 1);
            kindOf("n".repeat(99) + "x", 1);
            kindOf("s", 1);
            kindOf("s1000", 2);
            kindOf("21()", 2);
            kindOf("1(1(1(1(", 2);
        });
        Sentence.of("Promise 34", "Returns 1 or 2; 0 without an error.", () -> {
            kindOf("", 0);
            kindOf("n", 0);
            kindOf("1(1(1(n)))", 0);
            kindOf("n".repeat(100), 0);
            Try.due("as the text changes", "[0, 1, 1, 2, 0]", bench -> Try.each(bench, CursorBench::errorKind,
                    b -> b.type('s') * 0 + b.errorKind(), b -> b.type('-') * 0 + b.errorKind(),
                    b -> b.type(0x31303030) * 0 + b.errorKind(), b -> b.clearText() * 0 + b.errorKind()));
        });
    }

    private static void kindOf(String text, int want) {
        Try.still(text, bench -> {
            Try.busy(bench);
            Try.write(bench, text);
        }, want, CursorBench::errorKind);
    }

    private static void promise35() {
        Sentence.of("Promise 35", "Returns the place of the error of the text as a program.", () -> {
            placeOf("x", 0);
            placeOf("n".repeat(99) + "x", 99);
            placeOf("s1000", 1);
            placeOf("n 21()", 2);
            placeOf("1(1(1(1(", 7);
        });
        Sentence.of("Promise 35", "Returns the index of a byte, or the length of the text; NONE without an error.",
                () -> {
            placeOf("", NONE);
            placeOf("n", NONE);
            placeOf("n".repeat(100), NONE);
            placeOf("s", 1);
            placeOf("2", 1);
            placeOf("2(n ", 4);
            placeOf("n".repeat(99) + "a", 100);
            Try.due("as the text changes", "[-1, 1, 2, 1, -1]", bench -> Try.each(bench, CursorBench::errorPlace,
                    b -> b.type('s') * 0 + b.errorPlace(), b -> b.type('-') * 0 + b.errorPlace(),
                    b -> b.type(0x31303030) * 0 + b.errorPlace(), b -> b.clearText() * 0 + b.errorPlace()));
        });
    }

    private static void placeOf(String text, int want) {
        Try.still(text, bench -> {
            Try.busy(bench);
            Try.write(bench, text);
        }, want, CursorBench::errorPlace);
    }

    /** A cursor plays the text from the front of 10, 20 and so on: the moves, the row, and whether it stands. */
    private static void plays(String text, int[] kind, int many, String want) {
        Try.due(text, want, bench -> {
            Try.cursor(kind[0], kind[1], many, 0, "").on(bench);
            Try.write(bench, text);
            return bench.play(2) + " " + Shown.row(bench, kind[0]) + " " + bench.isOpen(2);
        });
    }

    private static void promise36() {
        Sentence.of("Promise 36", "Lets a cursor make the moves of the text, one behind the other, until one is "
                + "refused, or cannot be made as the row has 40 numbers, or 300 were made.", () -> {
            for (int[] kind : KINDS) {
                plays("", kind, 2, "0 [10, 20] true");
                plays("3(n)", kind, 2, "2 [10, 20] true");
                plays("n", kind, 0, "0 [] true");
                boolean isBack = kind[1] == BACK;
                plays("nrr", kind, 2, kind[1] == VIEW ? "1 [10, 20] true" : isBack ? "2 [10] true" : "2 [20] true");
                plays("npn", kind, 2, (kind[1] < FORTH ? 3 : 1) + " [10, 20] true");
                plays("p", kind, 2, "0 [10, 20] true");
                plays("r", kind, 2, "0 [10, 20] true");
                plays("s5", kind, 2, "0 [10, 20] true");
                plays("ns5n", kind, 2, kind[1] == LIST ? "3 [5, 20] true" : "1 [10, 20] true");
                plays("a5n", kind, 2, kind[1] == LIST ? "2 [5, 10, 20] true" : "0 [10, 20] true");
                plays("nppp", kind, 0, "0 [] true");
            }
            for (int row : LISTS) {
                untilFull(row);
                untilMost(row);
            }
        });
    }

    private static void untilFull(int row) {
        for (int many : new int[] {37, 38, 39, 40}) {
            Try.due("a a a a, with " + many, "[" + (40 - many) + ", 40, " + (40 - many) + "]", bench -> {
                Try.cursor(row, LIST, many, 0, "").on(bench);
                Try.write(bench, "4(a5)");
                return Try.list(bench.play(2), bench.size(row), bench.nextPlace(2));
            });
        }
        Try.due("what was told stays told", "[1, 10, 39]", bench -> {
            Try.cursor(row, LIST, 40, 0, "").on(bench);
            Try.write(bench, "na5");
            return Try.list(bench.play(2), bench.replace(2, 5), bench.remove(2));
        });
        Try.due("room again", "[6, 40]", bench -> {
            Try.cursor(row, LIST, 40, 0, "").on(bench);
            Try.write(bench, "nra5nra5a5");
            return Try.list(bench.play(2), bench.size(row));
        });
        Try.still("no move at all", bench -> {
            Try.cursor(row, LIST, 40, 7, "n").on(bench);
            Try.write(bench, "a5n");
        }, 0, bench -> bench.play(2));
    }

    private static void untilMost(int row) {
        mostMoves(row, "15(10(np))", "[300, [10, 20], 0]");
        mostMoves(row, "15(10(np))n", "[300, [10, 20], 0]");
        mostMoves(row, "15(10(np))s5", "[300, [10, 20], 0]");
        mostMoves(row, "n13(20(s5))19(s6)19(s7)s8s9", "[300, [8, 20], 1]");
        mostMoves(row, "n13(20(s5))19(s6)18(s7)s8s9", "[300, [9, 20], 1]");
        mostMoves(row, "n13(20(s5))19(s6)17(s7)s8s9", "[299, [9, 20], 1]");
        mostMoves(row, "20(20(20(np)))", "[300, [10, 20], 0]");
        mostMoves(row, "20(20(20(n)))", "[2, [10, 20], 2]");
        mostMoves(row, "0(20(20(n)))20(20(np))", "[300, [10, 20], 0]");
        mostMoves(row, "2(7(20(np))n2(p))", "[282, [10, 20], 0]");
    }

    private static void mostMoves(int row, String text, String want) {
        Try.due(text, want, bench -> {
            Try.cursor(row, LIST, 2, 0, "").on(bench);
            Try.write(bench, text);
            return Try.list(bench.play(2), Shown.row(bench, row), bench.nextPlace(2));
        });
    }

    private static void promise36Counts() {
        SameSentences.anySlots("Promise 36", CursorBench::play);
        Sentence.of("Promise 36", "Returns how many moves were made (brackets are none).", () -> {
            int[] list = {LINKED, LIST};
            plays("1()", list, 2, "0 [10, 20] true");
            plays("20(20(20()))", list, 2, "0 [10, 20] true");
            plays("1(n)", list, 2, "1 [10, 20] true");
            plays("1(1(1(n)))", list, 2, "1 [10, 20] true");
            plays("0(n)", list, 2, "0 [10, 20] true");
            plays("2(n)p", list, 2, "3 [10, 20] true");
            plays("nprs5", list, 2, "3 [20] true");
            plays("ns5a6a7pr", list, 2, "6 [5, 6, 20] true");
            plays("20(n)20(p)", list, 2, "2 [10, 20] true");
        });
    }

    private static void promise36Throws() {
        Sentence.of("Promise 36", "Throws `IllegalStateException` if the slot is empty, or the text has an error",
                () -> {
            SameSentences.failsIfEmpty(CursorBench::play);
            String[] wrong = {"x", "nx", "s", "n2(n", "2", "s1000", "n21(n)", "1(1(1(1(n))))", "20(n)x",
                "n".repeat(99) + "x", "0(x)", "20(20(20(np)))x"};
            for (String text : wrong) {
                for (int slot : SLOTS) {
                    Try.fails("text " + text, bench -> {
                        Try.busy(bench);
                        Try.write(bench, text);
                    }, STATE, bench -> bench.play(slot));
                }
            }
        });
    }
}
