import java.math.BigInteger;

/** Promises 1 to 9, sentence by sentence. */
final class RowSentences extends Names {
    private RowSentences() {
    }

    static void all() {
        promise1();
        promise2();
        promise2Throws();
        promise3();
        promise4();
        promise4Parameters();
        promise4Throws();
        promise5();
        promise6();
        promise7();
        promise8();
        promise9();
    }

    private static void promise1() {
        Sentence.of("Promise 1", "Creates a bench with four empty rows, empty slots and an empty text.", () -> {
            Try.due("all", "[] [] [] [] empty empty empty empty empty 0/0/-1", Shown::all);
            Try.due("beside another bench", "[] [] [] [] empty empty empty empty empty 0/0/-1", bench -> {
                Try.busy(new CursorBench());
                return Shown.all(bench);
            });
        });
    }

    private static void promise2() {
        Sentence.of("Promise 2", "Puts a number behind all others of a row; into the row SORTED at its place, if it "
                + "is not there.", () -> {
            for (int row : new int[] {ARRAY, LINKED, DEQUE}) {
                Try.due("behind none, one and two", "[5, -5, 5]", bench -> {
                    Try.put(bench, row, 5, -5, 5);
                    return Shown.row(bench, row);
                });
                Try.due("behind 39", 3, bench -> {
                    bench.fill(row, 100, 1, 39);
                    bench.append(row, 3);
                    return bench.at(row, 39);
                });
                Try.due("behind one that came round", "[2, 3, 9]", bench -> {
                    bench.fill(row, 1, 1, 3);
                    bench.dropFirst(row);
                    bench.append(row, 9);
                    return Shown.row(bench, row);
                });
            }
            Try.due("ahead of all, behind all and between", "[-999, -1, 0, 1, 999]", bench -> {
                Try.put(bench, SORTED, 0, -999, 999, 1, -1);
                return Shown.row(bench, SORTED);
            });
            for (int place = 0; place < 40; place++) {
                int at = place;
                Try.due("at place " + place + " of 40", 2 * place - 40, bench -> {
                    bench.fill(SORTED, -40, 2, at);
                    for (int other = at + 1; other < 40; other++) {
                        bench.append(SORTED, 2 * other - 40);
                    }
                    bench.append(SORTED, 2 * at - 40);
                    return bench.at(SORTED, at);
                });
            }
        });
        Sentence.of("Promise 2", "Returns whether it came (false only for the row SORTED, if it is there; then "
                + "nothing changes).", () -> {
            for (int there : new int[] {-4, 2, 8}) {
                Try.still("the number " + there, Try::busy, false, bench -> bench.append(SORTED, there));
            }
            Try.due("the numbers beside it", "[true, true]", bench -> {
                Try.busy(bench);
                return Try.list(bench.append(SORTED, 1), bench.append(SORTED, 3));
            });
            Try.due("one that was there once", true, bench -> {
                Try.put(bench, SORTED, 6);
                bench.dropFirst(SORTED);
                return bench.append(SORTED, 6);
            });
            for (int row : new int[] {ARRAY, LINKED, DEQUE}) {
                Try.due("the same again", "[true, true]", bench ->
                        Try.list(bench.append(row, 6), bench.append(row, 6)));
            }
        });
    }

    private static void promise2Throws() {
        SameSentences.rows("Promise 2", (bench, row) -> bench.append(row, 100));
        Sentence.of("Promise 2", "- `value`: -999 to 999", () -> {
            for (int row : ROWS) {
                Try.due("least and most", "[-999, 999]", bench -> {
                    bench.append(row, -999);
                    bench.append(row, 999);
                    return Shown.row(bench, row);
                });
            }
        });
        Sentence.of("Promise 2", "Throws `IllegalArgumentException` if value is out of range", () -> {
            for (int row : ROWS) {
                SameSentences.isBad(NO_VALUES, (bench, value) -> bench.append(row, value));
            }
        });
        Sentence.of("Promise 2", "Throws `IllegalStateException` if the row has 40 numbers (also if it is there in "
                + "the row SORTED)", () -> {
            for (int row : ROWS) {
                Try.due("the 40th", "[true, 40]", bench -> {
                    bench.fill(row, 1, 1, 39);
                    return Try.list(bench.append(row, 40), bench.size(row));
                });
                Try.fails("the 41st", Try.cursor(row, FORTH, 40, 0, "n"), STATE, bench -> bench.append(row, 5));
                Try.fails("one that is there", Try.cursor(row, FORTH, 40, 0, "n"), STATE,
                        bench -> bench.append(row, 400));
            }
        });
    }

    private static void promise3() {
        Sentence.of("Promise 3", "Removes the first number of a row.", () -> {
            for (int row : ROWS) {
                Try.due("of 40", "[39, 2, 40]", bench -> {
                    bench.fill(row, 1, 1, 40);
                    bench.dropFirst(row);
                    return Try.list(bench.size(row), bench.at(row, 0), bench.at(row, 38));
                });
                Try.due("of one", "[]", bench -> {
                    bench.fill(row, 1, 1, 1);
                    bench.dropFirst(row);
                    return Shown.row(bench, row);
                });
            }
        });
        SameSentences.rows("Promise 3", (bench, row) -> bench.dropFirst(row));
        Sentence.of("Promise 3", "Returns this number.", () -> {
            for (int row : ROWS) {
                Try.due("one after the other", "[-3, 0, 3]", bench -> {
                    bench.fill(row, -3, 3, 3);
                    return Try.list(bench.dropFirst(row), bench.dropFirst(row), bench.dropFirst(row));
                });
            }
        });
        Sentence.of("Promise 3", "Throws `NoSuchElementException` if the row is empty", () -> {
            for (int row : ROWS) {
                Try.fails("a new row", bench -> bench.open(2, row, FORTH, 0), EMPTY, bench -> bench.dropFirst(row));
                Try.fails("a cleared row", bench -> {
                    Try.busy(bench);
                    bench.clear(row);
                }, EMPTY, bench -> bench.dropFirst(row));
            }
        });
    }

    private static void promise4() {
        Sentence.of("Promise 4", "Gives other numbers to a row: first, first + step, and so on, in this order (in "
                + "the row SORTED each one once, in rising order).", () -> {
            for (int row : ROWS) {
                boolean isSorted = row == SORTED;
                fills("rising", row, 5, 3, 3, "[5, 8, 11]");
                fills("falling", row, 5, -3, 3, isSorted ? "[-1, 2, 5]" : "[5, 2, -1]");
                fills("the same", row, 5, 0, 3, isSorted ? "[5]" : "[5, 5, 5]");
                fills("one", row, 5, 20, 1, "[5]");
                fills("none", row, 5, 20, 0, "[]");
                Try.due("in place of the least", "[8, 9]", bench -> {
                    bench.fill(row, -999, 1, 40);
                    bench.fill(row, 8, 1, 2);
                    return Shown.row(bench, row);
                });
                Try.due("in place of the most", "[8, 9]", bench -> {
                    bench.fill(row, 999, -1, 40);
                    bench.fill(row, 8, 1, 2);
                    return Shown.row(bench, row);
                });
                Try.due("40 falling", isSorted ? "[-390, 390]" : "[390, -390]", bench -> {
                    Try.busy(bench);
                    bench.fill(row, 390, -20, 40);
                    return Try.list(bench.at(row, 0), bench.at(row, 39));
                });
            }
        });
        Sentence.of("Promise 4", "All cursors of this row are gone.", () -> {
            for (int row : ROWS) {
                losesAll(row, bench -> bench.fill(row, 1, 1, 2));
                losesAll(row, bench -> bench.fill(row, 10, 10, 3));
                losesAll(row, bench -> bench.fill(row, 0, 0, 0));
                Try.due("of an empty row that stays empty", false, bench -> {
                    bench.open(2, row, FORTH, 0);
                    bench.fill(row, 0, 0, 0);
                    return bench.isOpen(2);
                });
            }
        });
        Sentence.of("Promise 4", "Returns how many numbers the row has then.", () -> {
            for (int row : ROWS) {
                Try.due("none, one, 40 and 40 of the same", row == SORTED ? "[0, 1, 40, 1]" : "[0, 1, 40, 40]", bench ->
                        Try.list(bench.fill(row, 1, 1, 0), bench.fill(row, 1, 1, 1), bench.fill(row, 1, 1, 40),
                                bench.fill(row, 1, 0, 40)));
            }
        });
    }

    private static void fills(String what, int row, int first, int step, int many, String want) {
        Try.due(what, want, bench -> {
            Try.busy(bench);
            bench.fill(row, first, step, many);
            return Shown.row(bench, row);
        });
    }

    /** The call leaves no cursor of the row, of whatever kind, and all of the others. */
    static void losesAll(int row, Try.Calls call) {
        Try.due("the cursors that are left", "4", bench -> {
            int slot = 0;
            bench.fill(row, 10, 10, 3);
            for (int[] kind : KINDS) {
                if (kind[0] == row) {
                    bench.open(slot, row, kind[1], 0);
                    slot++;
                }
            }
            bench.open(4, (row + 1) % 4, FORTH, 0);
            call.on(bench);
            return Shown.standing(bench);
        });
    }

    private static void promise4Parameters() {
        SameSentences.rows("Promise 4", (bench, row) -> bench.fill(row, 1, 1, 1));
        Sentence.of("Promise 4", "- `first`: -999 to 999", () -> {
            for (int row : ROWS) {
                fills("least", row, -999, 20, 2, "[-999, -979]");
                fills("most", row, 999, 0, 1, "[999]");
                fills("least with none", row, -999, -20, 0, "[]");
                fills("most with none", row, 999, 20, 0, "[]");
                fills("least, and none behind it", row, -999, -20, 1, "[-999]");
                fills("most, and none behind it", row, 999, 20, 1, "[999]");
                fills("least with none in front of it", row, -999, 20, 0, "[]");
                fills("most with none in front of it", row, 999, -20, 0, "[]");
                SameSentences.isBad(NO_VALUES, (bench, first) -> bench.fill(row, first, 0, 0));
            }
        });
        Sentence.of("Promise 4", "- `step`: -20 to 20", () -> {
            for (int row : ROWS) {
                fills("most", row, 0, 20, 2, "[0, 20]");
                fills("least", row, 0, -20, 2, row == SORTED ? "[-20, 0]" : "[0, -20]");
                SameSentences.isBad(new int[] {-21, 21, Integer.MIN_VALUE, Integer.MAX_VALUE},
                        (bench, step) -> bench.fill(row, 0, step, 0));
            }
        });
        Sentence.of("Promise 4", "- `many`: 0 to 40", () -> {
            for (int row : ROWS) {
                Try.due("none and 40", "[0, 40]", bench ->
                        Try.list(bench.fill(row, 1, 1, 0), bench.fill(row, 1, 1, 40)));
                SameSentences.isBad(new int[] {-1, 41, Integer.MIN_VALUE, Integer.MAX_VALUE},
                        (bench, many) -> bench.fill(row, 0, 0, many));
            }
        });
    }

    private static void promise4Throws() {
        Sentence.of("Promise 4", "Throws `IllegalArgumentException` if another parameter is out of range, or a "
                + "number would be", () -> {
            for (int row : ROWS) {
                Try.due("to the edges", "[40, 40, 2]", bench -> Try.list(bench.fill(row, 219, 20, 40),
                        bench.fill(row, -219, -20, 40), bench.fill(row, 998, 1, 2)));
                Try.fails("the 40th above", Try::busy, BAD, bench -> bench.fill(row, 220, 20, 40));
                Try.fails("the 40th below", Try::busy, BAD, bench -> bench.fill(row, -220, -20, 40));
                Try.fails("the second above", Try::busy, BAD, bench -> bench.fill(row, 999, 1, 2));
                Try.fails("the second below", Try::busy, BAD, bench -> bench.fill(row, -999, -1, 2));
                Try.fails("first", Try::busy, BAD, bench -> bench.fill(row, 1000, -20, 1));
                Try.fails("step", Try::busy, BAD, bench -> bench.fill(row, 0, 21, 1));
                Try.fails("many", Try::busy, BAD, bench -> bench.fill(row, 0, 1, 41));
            }
        });
    }

    private static void promise5() {
        Sentence.of("Promise 5", "Removes all numbers from a row.", () -> {
            for (int row : ROWS) {
                Try.due("of 40", "[[], 5]", bench -> {
                    Try.busy(bench);
                    bench.fill(row, 1, 1, 40);
                    bench.clear(row);
                    return Try.list(Shown.row(bench, row), bench.size((row + 1) % 4));
                });
                Try.due("of the least", "[[], true, -999]", bench -> {
                    bench.fill(row, -999, 1, 40);
                    bench.clear(row);
                    return Try.list(Shown.row(bench, row), bench.append(row, -999), bench.at(row, 0));
                });
                Try.due("of the most", "[[], true, 999]", bench -> {
                    bench.fill(row, 999, -1, 40);
                    bench.clear(row);
                    return Try.list(Shown.row(bench, row), bench.append(row, 999), bench.at(row, 0));
                });
                Try.due("room for 40", 40, bench -> {
                    bench.fill(row, 1, 1, 40);
                    bench.clear(row);
                    return bench.fill(row, 50, 1, 40);
                });
            }
        });
        Sentence.of("Promise 5", "All cursors of this row are gone.", () -> {
            for (int row : ROWS) {
                losesAll(row, bench -> bench.clear(row));
                Try.due("of an empty row", false, bench -> {
                    bench.open(2, row, FORTH, 0);
                    bench.clear(row);
                    return bench.isOpen(2);
                });
            }
        });
        SameSentences.rows("Promise 5", (bench, row) -> bench.clear(row));
        Sentence.of("Promise 5", "Returns how many there were.", () -> {
            for (int row : ROWS) {
                Try.due("of none, 40 and none again", "[0, 40, 0]", bench -> {
                    int none = bench.clear(row);
                    bench.fill(row, 1, 1, 40);
                    return Try.list(none, bench.clear(row), bench.clear(row));
                });
            }
        });
    }

    private static void promise6() {
        Sentence.of("Promise 6", "Returns how many numbers a row has.", () -> {
            for (int row : ROWS) {
                for (int many : new int[] {0, 1, 39, 40}) {
                    Try.still("of " + many, Try.cursor(row, FORTH, many, 0, "n"), many, bench -> bench.size(row));
                }
            }
        });
        SameSentences.rows("Promise 6", (bench, row) -> bench.size(row));
        Sentence.of("Promise 6", "Returns how many.", () -> {
            for (int row : ROWS) {
                Try.due("as they come and go", "[0, 1, 2, 1, 0]", bench -> {
                    int none = bench.size(row);
                    bench.append(row, 1);
                    int one = bench.size(row);
                    bench.append(row, 2);
                    int two = bench.size(row);
                    bench.dropFirst(row);
                    int left = bench.size(row);
                    bench.clear(row);
                    return Try.list(none, one, two, left, bench.size(row));
                });
            }
        });
    }

    private static void promise7() {
        Sentence.of("Promise 7", "Returns a number of a row.", () -> {
            for (int row : ROWS) {
                Try.still("the first", Try.cursor(row, FORTH, 40, 0, "n"), 10, bench -> bench.at(row, 0));
                Try.still("the last", Try.cursor(row, FORTH, 40, 0, "n"), 400, bench -> bench.at(row, 39));
                Try.still("the only one", Try.cursor(row, FORTH, 1, 0, "n"), 10, bench -> bench.at(row, 0));
            }
        });
        Sentence.of("Promise 7", "- `row`: ARRAY to DEQUE", () -> {
            SameSentences.isTaken(ROWS, (bench, row) -> bench.at(row, 0));
            SameSentences.isNoPlace(new int[] {-1, 4}, (bench, row) -> bench.at(row, 0));
        });
        Sentence.of("Promise 7", "Throws `IndexOutOfBoundsException` if there is no such row or place", () -> {
            SameSentences.isNoPlace(NO_ROWS, (bench, row) -> bench.at(row, 0));
            for (int row : ROWS) {
                Try.fails("place 0 of none", Try.cursor(row, FORTH, 0, 0, ""), NO_PLACE, bench -> bench.at(row, 0));
                for (int place : new int[] {-1, 40, Integer.MIN_VALUE, Integer.MAX_VALUE}) {
                    Try.fails("place " + place + " of 40", Try.cursor(row, FORTH, 40, 0, "n"), NO_PLACE,
                            bench -> bench.at(row, place));
                }
            }
        });
        Sentence.of("Promise 7", "- `place`: its place", () -> {
            for (int row : ROWS) {
                for (int place = 0; place < 40; place++) {
                    int at = place;
                    Try.due("place " + place, 10 + 10 * place, bench -> {
                        bench.fill(row, 10, 10, 40);
                        return bench.at(row, at);
                    });
                }
                Try.fails("ahead of the first", Try::busy, NO_PLACE, bench -> bench.at(row, -1));
                Try.fails("behind the last", Try::busy, NO_PLACE, bench -> bench.at(row, 5));
            }
        });
        Sentence.of("Promise 7", "Returns the number.", () -> {
            for (int row : ROWS) {
                Try.due("least and most", "[-999, 999]", bench -> {
                    Try.put(bench, row, -999, 999);
                    return Try.list(bench.at(row, 0), bench.at(row, 1));
                });
            }
        });
    }

    private static void promise8() {
        Sentence.of("Promise 8", "Returns a digest of a row: 7 at first, then, for each number in their order, 31 "
                + "times as much, plus the number, modulo 2^32 (as an int).", () -> {
            for (int row : ROWS) {
                Try.still("of none", bench -> bench.open(2, row, FORTH, 0), 7, bench -> bench.digest(row));
                Try.still("of one", Try.cursor(row, FORTH, 1, 0, "n"), 227, bench -> bench.digest(row));
                Try.still("of two, in their order", Try.cursor(row, FORTH, 2, 0, "n"), 7057,
                        bench -> bench.digest(row));
                Try.due("below 0", 7 * 31 - 999, bench -> {
                    bench.append(row, -999);
                    return bench.digest(row);
                });
                int[] all = new int[40];
                for (int place = 0; place < 40; place++) {
                    all[place] = 10 * place + 10;
                }
                Try.still("of 40, wrapped round", Try.cursor(row, FORTH, 40, 0, "n"), digestOf(all),
                        bench -> bench.digest(row));
            }
        });
        SameSentences.rows("Promise 8", (bench, row) -> bench.digest(row));
        Sentence.of("Promise 8", "Returns this.", () -> {
            int[][] rows = {{-7}, {-217}, {-218}, {-999, 999}, {-999, -998, -997, -996, -995, -994}, {1, 2, 3, 4, 5},
                {1, 2, 3, 4, 5, 6}, {994, 995, 996, 997, 998}, {993, 994, 995, 996, 997, 998, 999}};
            for (int row : ROWS) {
                for (int[] numbers : rows) {
                    Try.due("of " + numbers.length + " from " + numbers[0], digestOf(numbers), bench -> {
                        Try.put(bench, row, numbers);
                        return bench.digest(row);
                    });
                }
            }
        });
    }

    private static int digestOf(int... numbers) {
        BigInteger digest = BigInteger.valueOf(7);
        for (int number : numbers) {
            digest = digest.multiply(BigInteger.valueOf(31)).add(BigInteger.valueOf(number));
        }
        return digest.mod(BigInteger.ONE.shiftLeft(32)).intValue();
    }

    private static void promise9() {
        Sentence.of("Promise 9", "Tells whether two rows have the same numbers in the same order.", () -> {
            for (int row : ROWS) {
                for (int other : ROWS) {
                    boolean isOne = row == other;
                    isSame("the same", row, other, new int[] {1, 2, 3}, new int[] {1, 2, 3}, true);
                    isSame("the first differs", row, other, new int[] {0, 2, 3}, new int[] {1, 2, 3}, isOne);
                    isSame("the last differs", row, other, new int[] {1, 2, 3}, new int[] {1, 2, 4}, isOne);
                    isSame("one more", row, other, new int[] {1, 2, 3}, new int[] {1, 2}, isOne);
                    isSame("one fewer", row, other, new int[] {1, 2}, new int[] {1, 2, 3}, isOne);
                    isSame("one and none", row, other, new int[] {0}, new int[] {}, isOne);
                    isSame("none and one", row, other, new int[] {}, new int[] {0}, isOne);
                    isSame("none and none", row, other, new int[] {}, new int[] {}, true);
                    if (row != SORTED && other != SORTED) {
                        isSame("another order", row, other, new int[] {1, 2, 3}, new int[] {3, 2, 1}, isOne);
                    }
                }
            }
        });
        Sentence.of("Promise 9", "- `row`: ARRAY to DEQUE", () -> {
            SameSentences.isTaken(ROWS, (bench, row) -> bench.isSame(row, LINKED));
            SameSentences.isNoPlace(new int[] {-1, 4}, (bench, row) -> bench.isSame(row, LINKED));
        });
        Sentence.of("Promise 9", "- `other`: ARRAY to DEQUE", () -> {
            SameSentences.isTaken(ROWS, (bench, other) -> bench.isSame(LINKED, other));
            SameSentences.isNoPlace(new int[] {-1, 4}, (bench, other) -> bench.isSame(LINKED, other));
        });
        Sentence.of("Promise 9", "Returns whether they have.", () -> {
            for (int row : ROWS) {
                int other = (row + 1) % 4;
                Try.due("40 and 40, 39, and 40 of which the last differs", "[true, false, false]", bench -> {
                    bench.fill(row, 1, 1, 40);
                    bench.fill(other, 1, 1, 40);
                    boolean same = bench.isSame(row, other);
                    bench.fill(other, 1, 1, 39);
                    boolean fewer = bench.isSame(row, other);
                    bench.append(other, 41);
                    return Try.list(same, fewer, bench.isSame(row, other));
                });
            }
        });
        Sentence.of("Promise 9", "Throws `IndexOutOfBoundsException` if there is no such row", () -> {
            SameSentences.isNoPlace(NO_ROWS, (bench, row) -> bench.isSame(row, ARRAY));
            SameSentences.isNoPlace(NO_ROWS, (bench, row) -> bench.isSame(ARRAY, row));
            SameSentences.isNoPlace(NO_ROWS, (bench, row) -> bench.isSame(row, row));
        });
    }

    private static void isSame(String what, int row, int other, int[] numbers, int[] others, boolean want) {
        Try.still(what, bench -> {
            Try.put(bench, row, numbers);
            Try.put(bench, other, others);
            bench.open(2, row, FORTH, 0);
        }, want, bench -> bench.isSame(row, other));
    }
}
