/** Promises 25 to 29 and 37 to 39, sentence by sentence. */
final class WholeRowSentences extends Names {
    /** The rows in which the same number can be there more than once. */
    private static final int[] FREE = {ARRAY, LINKED, DEQUE};

    private WholeRowSentences() {
    }

    static void all() {
        promise25();
        promise25Parameters();
        promise26();
        promise27();
        promise28();
        promise28Throws();
        promise29();
        promise29Parameters();
        promise29Throws();
        promise37();
        promise38();
        promise39();
    }

    /** The call leaves this row of the numbers. */
    private static void leaves(String what, int row, String want, Try.Calls call, int... numbers) {
        Try.due(what, want, bench -> {
            Try.put(bench, row, numbers);
            call.on(bench);
            return Shown.row(bench, row);
        });
    }

    private static void promise25() {
        Sentence.of("Promise 25", "Removes all numbers from a row that have a rest if they are divided (a rest is 0 "
                + "or more, also of numbers below 0).", () -> {
            for (int row : ROWS) {
                int[] numbers = {-5, -4, -3, -2, -1, 0, 1, 2, 3, 4, 5};
                leaves("3, 0", row, "[-5, -4, -2, -1, 1, 2, 4, 5]", bench -> bench.sieve(row, 3, 0), numbers);
                leaves("3, 1", row, "[-4, -3, -1, 0, 2, 3, 5]", bench -> bench.sieve(row, 3, 1), numbers);
                leaves("3, 2", row, "[-5, -3, -2, 0, 1, 3, 4]", bench -> bench.sieve(row, 3, 2), numbers);
                leaves("3, 3", row, "[-5, -4, -3, -2, -1, 0, 1, 2, 3, 4, 5]", bench -> bench.sieve(row, 3, 3), numbers);
                leaves("2, 1", row, "[-4, -2, 0, 2, 4]", bench -> bench.sieve(row, 2, 1), numbers);
                leaves("1, 0", row, "[]", bench -> bench.sieve(row, 1, 0), numbers);
                leaves("100, 99", row, "[-999, -100, 0, 98, 100, 998]", bench -> bench.sieve(row, 100, 99),
                        -999, -901, -101, -100, -1, 0, 98, 99, 100, 199, 998, 999);
                leaves("100, 1", row, "[-1, 0, 999]", bench -> bench.sieve(row, 100, 1), -999, -99, -1, 0, 1, 901, 999);
                Try.due("of 40", "[20, 2, 40]", bench -> {
                    bench.fill(row, 1, 1, 40);
                    bench.sieve(row, 2, 1);
                    return Try.list(bench.size(row), bench.at(row, 0), bench.at(row, 19));
                });
            }
            for (int row : FREE) {
                leaves("the same", row, "[7, 7]", bench -> bench.sieve(row, 4, 0), 4, 7, 4, 4, 7, 8);
            }
        });
        Sentence.of("Promise 25", "If there are any, all cursors of this row are gone.", () -> {
            for (int row : ROWS) {
                RowSentences.losesAll(row, bench -> bench.sieve(row, 1, 0));
                RowSentences.losesAll(row, bench -> bench.sieve(row, 100, 20));
                Try.still("none", Try::busy, 0, bench -> bench.sieve(row, 1, 1));
                Try.still("none of 40", Try.cursor(row, FORTH, 40, 0, "n"), 0, bench -> bench.sieve(row, 10, 5));
                Try.still("none of none", Try.cursor(row, FORTH, 0, 0, "n"), 0, bench -> bench.sieve(row, 1, 0));
            }
        });
    }

    private static void promise25Parameters() {
        SameSentences.rows("Promise 25", (bench, row) -> bench.sieve(row, 2, 1));
        int[] noModulus = {0, -1, 101, Integer.MIN_VALUE, Integer.MAX_VALUE};
        int[] noRest = {-1, 100, Integer.MIN_VALUE, Integer.MAX_VALUE};
        Sentence.of("Promise 25", "- `modulus`: 1 to 100", () -> {
            SameSentences.isTaken(new int[] {1, 2, 99, 100}, (bench, modulus) -> bench.sieve(LINKED, modulus, 0));
            SameSentences.isBad(noModulus, (bench, modulus) -> bench.sieve(LINKED, modulus, 0));
        });
        Sentence.of("Promise 25", "- `rest`: 0 to 99", () -> {
            SameSentences.isTaken(new int[] {0, 1, 98, 99}, (bench, rest) -> bench.sieve(LINKED, 100, rest));
            SameSentences.isTaken(new int[] {0, 1, 98, 99}, (bench, rest) -> bench.sieve(LINKED, 1, rest));
            SameSentences.isBad(noRest, (bench, rest) -> bench.sieve(LINKED, 100, rest));
        });
        Sentence.of("Promise 25", "Returns how many were removed.", () -> {
            for (int row : ROWS) {
                Try.due("of 40", "[4, 0, 36, 0]", bench -> {
                    bench.fill(row, 1, 1, 40);
                    return Try.list(bench.sieve(row, 10, 0), bench.sieve(row, 10, 0), bench.sieve(row, 1, 0),
                            bench.sieve(row, 1, 0));
                });
                Try.due("one", 1, bench -> {
                    bench.fill(row, 1, 1, 40);
                    return bench.sieve(row, 100, 40);
                });
            }
        });
        Sentence.of("Promise 25", "Throws `IllegalArgumentException` if modulus or rest is out of range", () -> {
            for (int row : ROWS) {
                SameSentences.isBad(noModulus, (bench, modulus) -> bench.sieve(row, modulus, 0));
                SameSentences.isBad(noRest, (bench, rest) -> bench.sieve(row, 1, rest));
                Try.fails("of none", bench -> bench.open(2, row, FORTH, 0), BAD, bench -> bench.sieve(row, 0, 0));
                Try.fails("both", Try::busy, BAD, bench -> bench.sieve(row, 101, 100));
            }
        });
    }

    private static void promise26() {
        Sentence.of("Promise 26", "Removes each number from a row that is the same as the one right in front of it "
                + "(as the row is before).", () -> {
            for (int row : FREE) {
                leaves("two", row, "[1]", bench -> bench.unlike(row), 1, 1);
                leaves("three", row, "[1]", bench -> bench.unlike(row), 1, 1, 1);
                leaves("at both ends", row, "[1, 2, 3]", bench -> bench.unlike(row), 1, 1, 2, 3, 3);
                leaves("not side by side", row, "[1, 2, 1]", bench -> bench.unlike(row), 1, 2, 1);
                leaves("side by side then", row, "[1, 2, 1]", bench -> bench.unlike(row), 1, 2, 2, 1);
                leaves("0", row, "[0, 5, 0]", bench -> bench.unlike(row), 0, 0, 5, 0, 0);
                leaves("one", row, "[0]", bench -> bench.unlike(row), 0);
                leaves("none", row, "[]", bench -> bench.unlike(row));
                Try.due("40", "[5]", bench -> {
                    bench.fill(row, 5, 0, 40);
                    bench.unlike(row);
                    return Shown.row(bench, row);
                });
            }
            leaves("SORTED", SORTED, "[-1, 0, 1]", bench -> bench.unlike(SORTED), 0, 1, -1);
        });
        Sentence.of("Promise 26", "If there are any, all cursors of this row are gone.", () -> {
            for (int row : FREE) {
                RowSentences.losesAll(row, bench -> {
                    Try.put(bench, row, 7, 8, 8);
                    bench.open(0, row, FORTH, 0);
                    bench.unlike(row);
                });
            }
            for (int row : ROWS) {
                Try.still("none of 40", Try.cursor(row, FORTH, 40, 0, "n"), 0, bench -> bench.unlike(row));
                Try.still("none of one", Try.cursor(row, FORTH, 1, 0, "n"), 0, bench -> bench.unlike(row));
                Try.still("none of none", Try.cursor(row, FORTH, 0, 0, "n"), 0, bench -> bench.unlike(row));
            }
        });
        SameSentences.rows("Promise 26", CursorBench::unlike);
        Sentence.of("Promise 26", "Returns how many were removed.", () -> {
            for (int row : FREE) {
                Try.due("of 40 and of one", "[39, 0]", bench -> {
                    bench.fill(row, 5, 0, 40);
                    return Try.list(bench.unlike(row), bench.unlike(row));
                });
                Try.due("one", 1, bench -> {
                    Try.put(bench, row, 5, 6, 6, 5);
                    return bench.unlike(row);
                });
            }
        });
    }

    private static void promise27() {
        Sentence.of("Promise 27", "Turns the order of a row round, replacing its numbers.", () -> {
            for (int row : LISTS) {
                leaves("none", row, "[]", bench -> bench.turn(row));
                leaves("one", row, "[5]", bench -> bench.turn(row), 5);
                leaves("two", row, "[6, 5]", bench -> bench.turn(row), 5, 6);
                leaves("three", row, "[5, 7, 7]", bench -> bench.turn(row), 7, 7, 5);
                leaves("four", row, "[4, 3, 2, 1]", bench -> bench.turn(row), 1, 2, 3, 4);
                for (int many : new int[] {39, 40}) {
                    Try.due("" + many, "[" + many + ", 1]", bench -> {
                        bench.fill(row, 1, 1, many);
                        bench.turn(row);
                        return Try.list(bench.at(row, 0), bench.at(row, many - 1));
                    });
                }
                for (int[] kind : KINDS) {
                    if (kind[0] == row) {
                        Try.due("no cursor goes", "2", bench -> {
                            Try.cursor(row, kind[1], 3, 0, "n").on(bench);
                            bench.turn(row);
                            return Shown.standing(bench);
                        });
                        Try.due("nor moves", kind[1] == BACK ? "[20, 30]" : "[20, 10]", bench -> {
                            Try.cursor(row, kind[1], 3, 0, "n").on(bench);
                            bench.turn(row);
                            return Try.list(bench.next(2), bench.next(2));
                        });
                    }
                }
                Try.due("what was told", "[30, [5, 20, 10]]", bench -> {
                    Try.cursor(row, LIST, 3, 0, "n").on(bench);
                    bench.turn(row);
                    return Try.list(bench.replace(2, 5), Shown.row(bench, row));
                });
            }
        });
        Sentence.of("Promise 27", "- `row`: ARRAY or LINKED", () -> {
            SameSentences.isTaken(LISTS, CursorBench::turn);
            SameSentences.isNoPlace(new int[] {-1, 4}, CursorBench::turn);
            SameSentences.isBad(new int[] {SORTED, DEQUE}, CursorBench::turn);
        });
        Sentence.of("Promise 27", "Returns how many numbers it has.", () -> {
            for (int row : LISTS) {
                for (int many : new int[] {0, 1, 2, 40}) {
                    Try.due("" + many, many, bench -> {
                        bench.fill(row, 1, 1, many);
                        return bench.turn(row);
                    });
                }
            }
        });
        SameSentences.noRow("Promise 27", CursorBench::turn);
        Sentence.of("Promise 27", "Throws `IllegalArgumentException` if it is SORTED or DEQUE", () -> {
            for (int row : new int[] {SORTED, DEQUE}) {
                for (int many : new int[] {0, 1, 40}) {
                    Try.fails("of " + many, Try.cursor(row, FORTH, many, 0, "n"), BAD, bench -> bench.turn(row));
                }
            }
        });
    }

    private static void promise28() {
        Sentence.of("Promise 28", "Inserts each number of a row once more, right behind it.", () -> {
            for (int row : LISTS) {
                leaves("none", row, "[]", bench -> bench.twice(row));
                leaves("one", row, "[5, 5]", bench -> bench.twice(row), 5);
                leaves("three", row, "[3, 3, 1, 1, 2, 2]", bench -> bench.twice(row), 3, 1, 2);
                leaves("the same", row, "[4, 4, 4, 4]", bench -> bench.twice(row), 4, 4);
                Try.due("20", "[1, 1, 2, 19, 20, 20]", bench -> {
                    bench.fill(row, 1, 1, 20);
                    bench.twice(row);
                    return Try.each(bench, b -> b.at(row, 0), b -> b.at(row, 1), b -> b.at(row, 2), b -> b.at(row, 37),
                            b -> b.at(row, 38), b -> b.at(row, 39));
                });
            }
        });
        Sentence.of("Promise 28", "If there are any, all cursors of this row are gone.", () -> {
            for (int row : LISTS) {
                RowSentences.losesAll(row, bench -> bench.twice(row));
                Try.due("of one", false, bench -> {
                    Try.cursor(row, VIEW, 1, 1, "").on(bench);
                    bench.twice(row);
                    return bench.isOpen(2);
                });
                for (int[] kind : KINDS) {
                    if (kind[0] == row) {
                        Try.still("none", Try.cursor(row, kind[1], 0, 0, ""), 0, bench -> bench.twice(row));
                    }
                }
            }
        });
        Sentence.of("Promise 28", "- `row`: ARRAY or LINKED", () -> {
            SameSentences.isTaken(LISTS, CursorBench::twice);
            SameSentences.isNoPlace(new int[] {-1, 4}, CursorBench::twice);
            SameSentences.isBad(new int[] {SORTED, DEQUE}, CursorBench::twice);
        });
        Sentence.of("Promise 28", "Returns how many numbers it has then.", () -> {
            for (int row : LISTS) {
                for (int many : new int[] {0, 1, 19, 20}) {
                    Try.due("" + many, "[" + 2 * many + ", " + 2 * many + "]", bench -> {
                        bench.fill(row, 1, 1, many);
                        return Try.list(bench.twice(row), bench.size(row));
                    });
                }
            }
        });
    }

    private static void promise28Throws() {
        SameSentences.noRow("Promise 28", CursorBench::twice);
        Sentence.of("Promise 28", "Throws `IllegalArgumentException` if it is SORTED or DEQUE", () -> {
            for (int row : new int[] {SORTED, DEQUE}) {
                for (int many : new int[] {0, 1, 20, 21, 40}) {
                    Try.fails("of " + many, Try.cursor(row, FORTH, many, 0, "n"), BAD, bench -> bench.twice(row));
                }
            }
        });
        Sentence.of("Promise 28", "Throws `IllegalStateException` if it would have more than 40 numbers", () -> {
            for (int row : LISTS) {
                Try.due("of 20", 40, bench -> {
                    bench.fill(row, 1, 1, 20);
                    return bench.twice(row);
                });
                for (int many : new int[] {21, 39, 40}) {
                    Try.fails("of " + many, Try.cursor(row, LIST, many, 3, "n"), STATE, bench -> bench.twice(row));
                }
            }
        });
    }

    /** The merged numbers of a first and a second row, in each row that can take them. */
    private static void merges(String what, int[] first, int[] second, String want) {
        for (int row : ROWS) {
            for (int other : ROWS) {
                for (int to : FREE) {
                    boolean isOther = row != other && to != row && to != other;
                    if (isOther && isFor(row, first) && isFor(other, second)) {
                        Try.due(what, want, bench -> {
                            Try.busy(bench);
                            Try.put(bench, row, first);
                            Try.put(bench, other, second);
                            bench.merge(row, other, to);
                            return Shown.row(bench, to);
                        });
                    }
                }
            }
        }
    }

    /** Whether a row can have these numbers in this order. */
    private static boolean isFor(int row, int[] numbers) {
        boolean isRising = true;
        for (int index = 1; index < numbers.length; index++) {
            isRising &= numbers[index - 1] < numbers[index];
        }
        return row != SORTED || isRising;
    }

    private static void promise29() {
        Sentence.of("Promise 29", "Gives to a row, in place of all that it has, the numbers of two others, which "
                + "stay: again and again that one comes next of which the first number that has not come is less, of "
                + "equal ones that of the first row; if one has none left, all that are left of the other one.",
                () -> {
            merges("by turns", new int[] {1, 3, 5}, new int[] {2, 4, 6}, "[1, 2, 3, 4, 5, 6]");
            merges("one behind the other", new int[] {1, 2}, new int[] {3, 4}, "[1, 2, 3, 4]");
            merges("the other one first", new int[] {3, 4}, new int[] {1, 2}, "[1, 2, 3, 4]");
            merges("equal, then less", new int[] {5, 1}, new int[] {5, 9}, "[5, 1, 5, 9]");
            merges("equal, then more", new int[] {5, 9}, new int[] {5, 1}, "[5, 5, 1, 9]");
            merges("falling", new int[] {3, 2, 1}, new int[] {2}, "[2, 3, 2, 1]");
            merges("the least and the most", new int[] {-999, 999}, new int[] {-999, 999}, "[-999, -999, 999, 999]");
            merges("none and some", new int[] {}, new int[] {3, 1}, "[3, 1]");
            merges("some and none", new int[] {3, 1}, new int[] {}, "[3, 1]");
            merges("none and none", new int[] {}, new int[] {}, "[]");
            for (int row : ROWS) {
                for (int to : FREE) {
                    if (to != row) {
                        Try.due("with itself", "[[10, 10, 20, 20], [10, 20]]", bench -> {
                            Try.busy(bench);
                            bench.fill(row, 10, 10, 2);
                            bench.merge(row, row, to);
                            return Try.list(Shown.row(bench, to), Shown.row(bench, row));
                        });
                    }
                }
            }
            Try.due("they stay, with their cursors", "[10, 20, 30, 40, 50] [-4, -1, 2, 5, 8] 0 1 2 4", bench -> {
                Try.busy(bench);
                bench.merge(ARRAY, SORTED, DEQUE);
                return Shown.row(bench, ARRAY) + " " + Shown.row(bench, SORTED) + " " + Shown.standing(bench);
            });
        });
        Sentence.of("Promise 29", "All cursors of the third row are gone.", () -> {
            for (int to : FREE) {
                int other = (to + 1) % 4;
                RowSentences.losesAll(to, bench -> bench.merge(other, other, to));
                RowSentences.losesAll(to, bench -> {
                    bench.fill(other, 10, 10, 3);
                    bench.clear((to + 2) % 4);
                    bench.open(4, other, FORTH, 0);
                    bench.merge(other, (to + 2) % 4, to);
                });
                Try.due("none to none", false, bench -> {
                    bench.open(2, to, FORTH, 0);
                    bench.merge(other, other, to);
                    return bench.isOpen(2);
                });
            }
        });
    }

    private static void promise29Parameters() {
        Sentence.of("Promise 29", "- `row`: ARRAY to DEQUE", () -> {
            SameSentences.isTaken(new int[] {ARRAY, LINKED, SORTED}, (bench, row) -> bench.merge(row, SORTED, DEQUE));
            SameSentences.isTaken(new int[] {DEQUE}, (bench, row) -> bench.merge(row, SORTED, ARRAY));
            SameSentences.isNoPlace(new int[] {-1, 4}, (bench, row) -> bench.merge(row, SORTED, DEQUE));
        });
        Sentence.of("Promise 29", "- `other`: ARRAY to DEQUE, which may be the same one", () -> {
            SameSentences.isTaken(new int[] {ARRAY, LINKED, SORTED}, (bench, row) -> bench.merge(SORTED, row, DEQUE));
            SameSentences.isTaken(new int[] {DEQUE}, (bench, row) -> bench.merge(SORTED, row, ARRAY));
            SameSentences.isTaken(new int[] {LINKED, SORTED, DEQUE}, (bench, row) -> bench.merge(row, row, ARRAY));
            SameSentences.isTaken(new int[] {ARRAY}, (bench, row) -> bench.merge(row, row, DEQUE));
            SameSentences.isNoPlace(new int[] {-1, 4}, (bench, row) -> bench.merge(SORTED, row, DEQUE));
            SameSentences.isNoPlace(new int[] {-1, 4}, (bench, row) -> bench.merge(row, row, DEQUE));
        });
        Sentence.of("Promise 29", "- `to`: ARRAY, LINKED or DEQUE", () -> {
            SameSentences.isTaken(FREE, (bench, to) -> bench.merge(SORTED, SORTED, to));
            SameSentences.isBad(new int[] {SORTED}, (bench, to) -> bench.merge(ARRAY, LINKED, to));
            SameSentences.isNoPlace(new int[] {-1, 4}, (bench, to) -> bench.merge(ARRAY, LINKED, to));
        });
        Sentence.of("Promise 29", "Returns how many numbers the third row has then.", () -> {
            for (int to : FREE) {
                for (int many : new int[] {0, 1, 19, 20}) {
                    Try.due("twice " + many, "[" + 2 * many + ", " + 2 * many + "]", bench -> {
                        bench.fill(to, 1, 1, 7);
                        bench.fill(SORTED, 1, 1, many);
                        return Try.list(bench.merge(SORTED, SORTED, to), bench.size(to));
                    });
                }
                Try.due("40 and none", "[40, 40]", bench -> {
                    int empty = to == ARRAY ? LINKED : ARRAY;
                    bench.fill(SORTED, 1, 1, 40);
                    return Try.list(bench.merge(SORTED, empty, to), bench.merge(empty, SORTED, to));
                });
            }
        });
    }

    private static void promise29Throws() {
        Sentence.of("Promise 29", "Throws `IndexOutOfBoundsException` if there is no such row", () -> {
            SameSentences.isNoPlace(NO_ROWS, (bench, row) -> bench.merge(row, LINKED, DEQUE));
            SameSentences.isNoPlace(NO_ROWS, (bench, row) -> bench.merge(LINKED, row, DEQUE));
            SameSentences.isNoPlace(NO_ROWS, (bench, row) -> bench.merge(LINKED, LINKED, row));
            SameSentences.isNoPlace(NO_ROWS, (bench, row) -> bench.merge(row, row, row));
        });
        Sentence.of("Promise 29", "Throws `IllegalArgumentException` if to is SORTED, or one of both", () -> {
            for (int row : ROWS) {
                for (int other : ROWS) {
                    for (int to : new int[] {row, other, SORTED}) {
                        Try.fails("to " + to, Try::busy, BAD, bench -> bench.merge(row, other, to));
                        Try.fails("to " + to + " of none", bench -> bench.open(2, to, FORTH, 0), BAD,
                                bench -> bench.merge(row, other, to));
                    }
                }
            }
        });
        Sentence.of("Promise 29", "Throws `IllegalStateException` if it would have more than 40 numbers", () -> {
            for (int to : FREE) {
                int row = to == ARRAY ? LINKED : ARRAY;
                int[][] counts = {{20, 21}, {21, 20}, {40, 1}, {1, 40}, {40, 40}};
                for (int[] count : counts) {
                    Try.fails(count[0] + " and " + count[1], bench -> {
                        Try.cursor(to, FORTH, 3, 0, "n").on(bench);
                        bench.fill(row, 1, 1, count[0]);
                        bench.fill(SORTED, 1, 1, count[1]);
                        bench.open(0, SORTED, FORTH, 0);
                    }, STATE, bench -> bench.merge(row, SORTED, to));
                }
                Try.fails("21 twice", Try.cursor(row, FORTH, 21, 0, "n"), STATE, bench -> bench.merge(row, row, to));
                Try.due("20 twice, to a row of 40", 40, bench -> {
                    bench.fill(to, 1, 1, 40);
                    bench.fill(row, 1, 1, 20);
                    return bench.merge(row, row, to);
                });
            }
        });
    }

    private static void promise37() {
        Sentence.of("Promise 37", "Goes through a row with cursors of its own, forth and back, as the theorem says.",
                () -> {
            for (int[] kind : KINDS) {
                for (int many : new int[] {0, 1, 40}) {
                    for (String moves : new String[] {"", "n", "nn"}) {
                        Try.still("of " + many, Try.cursor(kind[0], kind[1], many, 0, moves), 0,
                                bench -> bench.errors(kind[0]));
                    }
                }
            }
        });
        SameSentences.rows("Promise 37", CursorBench::errors);
        Sentence.of("Promise 37", "Returns how often it is not as the theorem says; always 0.", () -> {
            for (int row : ROWS) {
                Try.still("with all slots", Try::busy, 0, bench -> bench.errors(row));
                Try.due("of a row that came round", 0, bench -> {
                    bench.fill(row, -999, 20, 40);
                    bench.dropFirst(row);
                    bench.dropFirst(row);
                    bench.append(row, 998);
                    bench.append(row, 999);
                    return bench.errors(row);
                });
            }
            for (int row : FREE) {
                Try.due("of the same", 0, bench -> {
                    bench.fill(row, 0, 0, 40);
                    return bench.errors(row);
                });
            }
        });
    }

    private static void promise38() {
        Sentence.of("Promise 38", "Returns the mean of the numbers of a row.", () -> {
            for (int row : ROWS) {
                mean("one", row, 5.0, 5);
                mean("two", row, 1.5, 1, 2);
                mean("below 0", row, -1.5, -2, -1);
                mean("least and most", row, 0.0, -999, 999);
            }
        });
        SameSentences.rows("Promise 38", CursorBench::meanValue);
        Sentence.of("Promise 38", "Returns all of them added up and converted to double, divided by their number, "
                + "converted to double; 0.0 if the row is empty.", () -> {
            for (int row : ROWS) {
                Try.still("none", bench -> bench.open(2, row, FORTH, 0), 0.0, bench -> bench.meanValue(row));
                Try.due("none again", 0.0, bench -> {
                    bench.fill(row, 1, 1, 40);
                    bench.clear(row);
                    return bench.meanValue(row);
                });
                mean("a third", row, 1.0 / 3.0, -1, 0, 2);
                mean("below 0, a seventh", row, -1.0 / 7.0, -4, -3, -2, 0, 1, 2, 5);
                Try.still("40", Try.cursor(row, FORTH, 40, 0, "n"), 205.0, bench -> bench.meanValue(row));
                Try.due("the most", 979.5, bench -> {
                    bench.fill(row, 999, -1, 40);
                    return bench.meanValue(row);
                });
            }
            for (int row : FREE) {
                Try.due("39 of the most", 999.0, bench -> {
                    bench.fill(row, 999, 0, 39);
                    return bench.meanValue(row);
                });
            }
        });
    }

    private static void mean(String what, int row, double want, int... numbers) {
        Try.still(what, bench -> {
            Try.put(bench, row, numbers);
            bench.open(2, row, FORTH, 0);
        }, want, bench -> bench.meanValue(row));
    }

    private static void promise39() {
        Sentence.of("Promise 39", "Returns the share of the slots in which there is a cursor.", () -> {
            Try.still("none", bench -> { }, 0.0f, CursorBench::openShare);
            Try.still("all", Try::busy, 1.0f, CursorBench::openShare);
            for (int slot : SLOTS) {
                Try.still("one", bench -> bench.open(slot, SORTED, FORTH, 0), 0.2f, CursorBench::openShare);
                Try.still("all but one", bench -> {
                    Try.busy(bench);
                    bench.close(slot);
                }, 0.8f, CursorBench::openShare);
            }
        });
        Sentence.of("Promise 39", "Returns how many there are, converted to float, divided by 5.0f.", () -> {
            for (int many = 0; many <= 5; many++) {
                int open = many;
                Try.due("" + many, (float) many / 5.0f, bench -> {
                    for (int slot = 0; slot < open; slot++) {
                        bench.open(slot, LINKED, LIST, 0);
                        bench.open(slot, LINKED, BACK, 0);
                    }
                    return bench.openShare();
                });
            }
            Try.due("as they are gone", "[1.0, 0.6, 0.4, 0.2, 0.0]", bench -> {
                Try.busy(bench);
                return Try.each(bench, b -> b.openShare(), b -> b.clear(LINKED) * 0 + b.openShare(),
                        b -> b.rest(2) * 0 + b.openShare(), b -> b.close(0) ? b.openShare() : -1.0f,
                        b -> b.dropFirst(DEQUE) * 0 + b.openShare());
            });
        });
    }
}
