/** The Terms "3. Cursors", sentence by sentence. */
final class KindsSentences extends Names {
    private KindsSentences() {
    }

    static void all() {
        slots();
        places();
        list();
        view();
        forth();
        back();
        unsupported();
        told();
        removeAndReplace();
        insert();
        ends();
        noMove();
        gone();
        replaced();
    }

    private static void slots() {
        Sentence.of("Cursors", "There are five slots for cursors, numbered from 0, all empty at first.", () -> {
            for (int slot : SLOTS) {
                Try.due("at first", false, bench -> bench.isOpen(slot));
                Try.due("alone", "" + slot, bench -> {
                    bench.open(slot, SORTED, FORTH, 0);
                    return Shown.standing(bench);
                });
            }
            SameSentences.isNoPlace(new int[] {-1, 5}, CursorBench::isOpen);
            Try.due("all", "0 1 2 3 4", bench -> {
                for (int slot : SLOTS) {
                    bench.open(slot, SORTED, FORTH, 0);
                }
                return Shown.standing(bench);
            });
        });
    }

    private static void places() {
        Sentence.of("Cursors", "A cursor stands in front of all numbers of its row, between two of them, or behind "
                + "all of them.", () -> {
            for (int row : LISTS) {
                for (int kind = LIST; kind <= VIEW; kind++) {
                    int asked = kind;
                    Try.due("of 3", "[10/-10001, 20/10, 30/20, -10001/30]", bench -> {
                        bench.fill(row, 10, 10, 3);
                        Object[] around = new Object[4];
                        for (int place = 0; place <= 3; place++) {
                            bench.open(1, row, asked, place);
                            bench.open(2, row, asked, place);
                            around[place] = bench.next(1) + "/" + bench.previous(2);
                        }
                        return Try.list(around);
                    });
                    Try.due("of none", "[-10001, -10001]", bench -> {
                        bench.open(1, row, asked, 0);
                        return Try.list(bench.next(1), bench.previous(1));
                    });
                    Try.due("behind 40", "[0, -10001, 400]", bench -> {
                        bench.fill(row, 10, 10, 40);
                        return Try.list(bench.open(1, row, asked, 40), bench.next(1), bench.previous(1));
                    });
                    Try.fails("behind 41", Try.cursor(row, kind, 40, 40, ""), NO_PLACE,
                            bench -> bench.open(1, row, asked, 41));
                }
            }
        });
    }

    /** Which rows have such cursors: no others. */
    private static void isForRows(int kind, int... rows) {
        for (int row : ROWS) {
            boolean isFor = false;
            for (int one : rows) {
                isFor |= one == row;
            }
            if (isFor) {
                Try.due("its row and kind", "[" + row + ", " + kind + "]", bench -> {
                    Try.busy(bench);
                    bench.open(4, row, kind, 0);
                    return Try.list(bench.rowOf(4), bench.kindOf(4));
                });
            } else {
                Try.fails("no kind for row " + row, Try::busy, BAD, bench -> bench.open(4, row, kind, 0));
                Try.fails("nor for an empty one", bench -> { }, BAD, bench -> bench.open(4, row, kind, 0));
            }
        }
    }

    private static void list() {
        Sentence.of("Cursors", "Its kinds are:", () -> {
            for (int row : ROWS) {
                for (int kind : new int[] {-1, 4, Integer.MIN_VALUE, Integer.MAX_VALUE}) {
                    Try.fails("no kind", Try::busy, BAD, bench -> bench.open(0, row, kind, 0));
                }
            }
        });
        Sentence.of("Cursors", "LIST, for the rows ARRAY and LINKED: goes forth and back, removes, replaces and "
                + "inserts.", () -> {
            isForRows(LIST, ARRAY, LINKED);
            for (int row : LISTS) {
                Try.due("goes", "[10, 20, -10001, 20, 10, -10001]", bench -> goForthAndBack(bench, row, LIST));
                Try.due("removes, replaces and inserts", "[1, 20, 2]", bench -> {
                    Try.cursor(row, LIST, 2, 0, "n").on(bench);
                    return Try.each(bench, b -> b.remove(2), b -> b.next(2) * 0 + b.replace(2, 5), b -> b.insert(2, 6));
                });
                Try.due("what came of it", "[5, 6]", bench -> {
                    Try.cursor(row, LIST, 2, 0, "n").on(bench);
                    bench.remove(2);
                    bench.next(2);
                    bench.replace(2, 5);
                    bench.insert(2, 6);
                    return Shown.row(bench, row);
                });
            }
        });
    }

    private static String goForthAndBack(CursorBench bench, int row, int kind) {
        Try.cursor(row, kind, 2, 0, "").on(bench);
        return Try.each(bench, b -> b.next(2), b -> b.next(2), b -> b.next(2), b -> b.previous(2), b -> b.previous(2),
                b -> b.previous(2));
    }

    private static void view() {
        Sentence.of("Cursors", "VIEW, for the rows ARRAY and LINKED: goes forth and back, but to remove, replace and "
                + "insert is always UNSUPPORTED, unless the call throws an exception.", () -> {
            isForRows(VIEW, ARRAY, LINKED);
            for (int row : LISTS) {
                Try.due("goes", "[10, 20, -10001, 20, 10, -10001]", bench -> goForthAndBack(bench, row, VIEW));
                for (int many : new int[] {0, 1, 40}) {
                    for (String moves : new String[] {"", "n", "np", "nn"}) {
                        Try.Calls start = Try.cursor(row, VIEW, many, 0, moves);
                        Try.still("remove", start, UNSUPPORTED, bench -> bench.remove(2));
                        Try.still("replace", start, UNSUPPORTED, bench -> bench.replace(2, 999));
                        Try.still("insert", start, UNSUPPORTED, bench -> bench.insert(2, -999));
                        Try.fails("replace", start, BAD, bench -> bench.replace(2, 1000));
                        Try.fails("insert", start, BAD, bench -> bench.insert(2, -1000));
                    }
                }
                Try.Calls gone = bench -> {
                    Try.cursor(row, VIEW, 3, 0, "n").on(bench);
                    bench.dropFirst(row);
                };
                Try.fails("remove, gone", gone, STATE, bench -> bench.remove(2));
                Try.fails("replace, gone", gone, STATE, bench -> bench.replace(2, 5));
                Try.fails("insert, gone", gone, STATE, bench -> bench.insert(2, 5));
            }
        });
    }

    private static void forth() {
        Sentence.of("Cursors", "FORTH, for all rows: goes from the first number to the last one, and removes.",
                () -> {
            isForRows(FORTH, ARRAY, LINKED, SORTED, DEQUE);
            for (int row : ROWS) {
                Try.due("goes", "[10, 20, 30, -10001]", bench -> {
                    Try.cursor(row, FORTH, 3, 0, "").on(bench);
                    return Try.each(bench, b -> b.next(2), b -> b.next(2), b -> b.next(2), b -> b.next(2));
                });
                Try.due("goes over none", NO_ELEMENT, bench -> {
                    Try.cursor(row, FORTH, 0, 0, "").on(bench);
                    return bench.next(2);
                });
                Try.due("removes all of 40", "[]", bench -> {
                    Try.cursor(row, FORTH, 40, 0, "").on(bench);
                    for (int left = 39; left >= 0; left--) {
                        Check.due("next", bench.next(2), 400 - 10 * left);
                        Check.due("remove", bench.remove(2), left);
                    }
                    return Shown.row(bench, row);
                });
                Try.due("removes the last", "[10, 20]", bench -> {
                    Try.cursor(row, FORTH, 3, 0, "nnn").on(bench);
                    bench.remove(2);
                    return Shown.row(bench, row);
                });
            }
        });
    }

    private static void back() {
        Sentence.of("Cursors", "BACK, for the rows LINKED and DEQUE: goes from the last number to the first one, and "
                + "removes; for it, a number is behind the cursor if it is nearer to the beginning of the row.",
                () -> {
            isForRows(BACK, LINKED, DEQUE);
            for (int row : new int[] {LINKED, DEQUE}) {
                Try.due("goes", "[30, 20, 10, -10001]", bench -> {
                    Try.cursor(row, BACK, 3, 0, "").on(bench);
                    return Try.each(bench, b -> b.next(2), b -> b.next(2), b -> b.next(2), b -> b.next(2));
                });
                Try.due("behind it", "[3, true, true, true, false]", bench -> {
                    bench.fill(row, 10, 10, 3);
                    return Try.each(bench, b -> b.open(2, row, BACK, 0), b -> b.hasNext(2),
                            b -> b.next(2) == 30 && b.hasNext(2), b -> b.next(2) == 20 && b.hasNext(2),
                            b -> b.next(2) == 10 && b.hasNext(2));
                });
                Try.due("behind it in none", "[0, false, -10001]", bench -> Try.each(bench,
                        b -> b.open(2, row, BACK, 0), b -> b.hasNext(2), b -> b.next(2)));
                Try.due("removes all of 40", "[]", bench -> {
                    Try.cursor(row, BACK, 40, 0, "").on(bench);
                    for (int left = 39; left >= 0; left--) {
                        Check.due("next", bench.next(2), 10 * left + 10);
                        Check.due("remove", bench.remove(2), left);
                    }
                    return Shown.row(bench, row);
                });
                Try.due("removes one, with those behind it left", "[10, 30] true 10 false", bench -> {
                    Try.cursor(row, BACK, 3, 0, "nn").on(bench);
                    bench.remove(2);
                    return Shown.row(bench, row) + " " + bench.hasNext(2) + " " + bench.next(2) + " "
                            + bench.hasNext(2);
                });
                Try.due("the rest of it", (7 * 31 + 20) * 31 + 10, bench -> {
                    Try.cursor(row, BACK, 3, 0, "n").on(bench);
                    return bench.rest(2);
                });
            }
        });
    }

    private static void unsupported() {
        Sentence.of("Cursors", "For FORTH and BACK, whatever is told below about going back, places, replacing and "
                + "inserting is UNSUPPORTED, unless the call throws an exception.", () -> {
            for (int[] kind : KINDS) {
                if (kind[1] < FORTH) {
                    continue;
                }
                for (int many : new int[] {0, 1, 3, 40}) {
                    for (String moves : new String[] {"", "n", "n".repeat(many)}) {
                        Try.Calls start = Try.cursor(kind[0], kind[1], many, 0, moves);
                        Try.still("hasPrevious", start, UNSUPPORTED, bench -> bench.hasPrevious(2));
                        Try.still("previous", start, UNSUPPORTED, bench -> bench.previous(2));
                        Try.still("nextPlace", start, UNSUPPORTED, bench -> bench.nextPlace(2));
                        Try.still("previousPlace", start, UNSUPPORTED, bench -> bench.previousPlace(2));
                        Try.still("replace", start, UNSUPPORTED, bench -> bench.replace(2, 5));
                        Try.still("insert", start, UNSUPPORTED, bench -> bench.insert(2, 5));
                        Try.fails("replace", start, BAD, bench -> bench.replace(2, -1000));
                        Try.fails("insert", start, BAD, bench -> bench.insert(2, 1000));
                    }
                }
            }
        });
    }

    private static void told() {
        Sentence.of("Cursors", "A cursor has told a number if its latest move was to go on or to go back; a "
                + "replacement puts another number into its place, which is the one that it has told then.", () -> {
            for (int[] kind : KINDS) {
                if (kind[1] != VIEW) {
                    Try.due("went on", 2, bench -> {
                        Try.cursor(kind[0], kind[1], 3, 0, "n").on(bench);
                        return bench.remove(2);
                    });
                    Try.due("went on and removed", "[2, -10002]", bench -> {
                        Try.cursor(kind[0], kind[1], 3, 0, "n").on(bench);
                        return Try.list(bench.remove(2), bench.remove(2));
                    });
                    Try.due("went on again", "[2, 1, 0]", bench -> {
                        Try.cursor(kind[0], kind[1], 3, 0, "").on(bench);
                        return Try.each(bench, b -> b.next(2) * 0 + b.remove(2), b -> b.next(2) * 0 + b.remove(2),
                                b -> b.next(2) * 0 + b.remove(2));
                    });
                }
            }
            for (int row : LISTS) {
                toldByLists(row);
            }
        });
    }

    private static void toldByLists(int row) {
        Try.due("went on over the second", 20, bench -> {
            Try.cursor(row, LIST, 3, 0, "nn").on(bench);
            return bench.replace(2, 5);
        });
        Try.due("went back over the second", 20, bench -> {
            Try.cursor(row, LIST, 3, 2, "p").on(bench);
            return bench.replace(2, 5);
        });
        Try.due("went on and back", 10, bench -> {
            Try.cursor(row, LIST, 3, 0, "np").on(bench);
            return bench.replace(2, 5);
        });
        Try.due("inserted", "[4, -10002, -10002]", bench -> {
            Try.cursor(row, LIST, 3, 0, "n").on(bench);
            return Try.list(bench.insert(2, 5), bench.replace(2, 6), bench.remove(2));
        });
        Try.due("inserted and went back over it", "[4, 5, 5]", bench -> {
            Try.cursor(row, LIST, 3, 0, "n").on(bench);
            return Try.list(bench.insert(2, 5), bench.previous(2), bench.replace(2, 6));
        });
        Try.due("replaced again and again", "[20, 5, -999, 999]", bench -> {
            Try.cursor(row, LIST, 3, 0, "nn").on(bench);
            return Try.list(bench.replace(2, 5), bench.replace(2, -999), bench.replace(2, 999), bench.replace(2, 0));
        });
        Try.due("replaced and removed", "[2, [10, 30]]", bench -> {
            Try.cursor(row, LIST, 3, 2, "p").on(bench);
            bench.replace(2, 5);
            return Try.list(bench.remove(2), Shown.row(bench, row));
        });
        Try.due("replaced by the same", "[20, 20]", bench -> {
            Try.cursor(row, LIST, 3, 2, "p").on(bench);
            return Try.list(bench.replace(2, 20), bench.replace(2, 5));
        });
        Try.due("replaced by another one's turn", "[30, 2, [20, 10]]", bench -> {
            Try.cursor(row, LIST, 3, 0, "n").on(bench);
            bench.turn(row);
            return Try.list(bench.replace(2, 5), bench.remove(2), Shown.row(bench, row));
        });
        Try.due("replaced by another cursor", 8, bench -> {
            Try.cursor(row, LIST, 3, 0, "n").on(bench);
            bench.open(1, row, LIST, 1);
            bench.previous(1);
            bench.replace(1, 8);
            return bench.replace(2, 5);
        });
    }

    private static void removeAndReplace() {
        Sentence.of("Cursors", "To remove removes the number that was told, to replace puts another number into its "
                + "place; if the cursor has told none, these are refused with NO_STATE.", () -> {
            for (int row : LISTS) {
                Try.due("the one of the same", "[7, 8, 7]", bench -> {
                    Try.put(bench, row, 7, 8, 7, 7);
                    bench.open(2, row, LIST, 3);
                    bench.previous(2);
                    bench.replace(2, 9);
                    bench.remove(2);
                    return Shown.row(bench, row);
                });
                for (String moves : new String[] {"", "n"}) {
                    Try.Calls inserted = bench -> {
                        Try.cursor(row, LIST, 3, 0, moves).on(bench);
                        bench.insert(2, 5);
                    };
                    Try.still("replace what was inserted", inserted, NO_STATE, bench -> bench.replace(2, 6));
                    Try.still("remove what was inserted", inserted, NO_STATE, bench -> bench.remove(2));
                }
                Try.Calls removed = bench -> {
                    Try.cursor(row, LIST, 3, 0, "nn").on(bench);
                    bench.remove(2);
                };
                Try.still("replace what was removed", removed, NO_STATE, bench -> bench.replace(2, 6));
                for (int place = 0; place <= 3; place++) {
                    Try.still("replace, new", Try.cursor(row, LIST, 3, place, ""), NO_STATE,
                            bench -> bench.replace(2, 6));
                    Try.still("remove, new", Try.cursor(row, LIST, 3, place, ""), NO_STATE, bench -> bench.remove(2));
                }
            }
            for (int[] kind : KINDS) {
                if (kind[1] == VIEW) {
                    continue;
                }
                Try.still("remove, new", Try.cursor(kind[0], kind[1], 3, 0, ""), NO_STATE, bench -> bench.remove(2));
                Try.still("remove, of none", Try.cursor(kind[0], kind[1], 0, 0, "n"), NO_STATE,
                        bench -> bench.remove(2));
                Try.still("remove again", bench -> {
                    Try.cursor(kind[0], kind[1], 3, 0, "n").on(bench);
                    bench.remove(2);
                }, NO_STATE, bench -> bench.remove(2));
                Try.due("the one that was told", "[10, 30]", bench -> {
                    Try.cursor(kind[0], kind[1], 3, 0, "nn").on(bench);
                    bench.remove(2);
                    return Shown.row(bench, kind[0]);
                });
            }
        });
    }

    private static void insert() {
        Sentence.of("Cursors", "To insert puts a number where the cursor stands: the cursor is behind that number "
                + "then, so that to go back tells it, and to go on tells the same number as before.", () -> {
            for (int row : LISTS) {
                String[] rows = {"[5, 10, 20]", "[10, 5, 20]", "[10, 20, 5]"};
                for (int place = 0; place <= 2; place++) {
                    int at = place;
                    Try.due("at " + place, rows[place], bench -> {
                        Try.cursor(row, LIST, 2, at, "").on(bench);
                        bench.insert(2, 5);
                        return Shown.row(bench, row);
                    });
                    Try.due("back", 5, bench -> {
                        Try.cursor(row, LIST, 2, at, "").on(bench);
                        bench.insert(2, 5);
                        return bench.previous(2);
                    });
                    Try.due("on", place == 2 ? NO_ELEMENT : 10 * place + 10, bench -> {
                        Try.cursor(row, LIST, 2, at, "").on(bench);
                        bench.insert(2, 5);
                        return bench.next(2);
                    });
                    Try.due("places", "[" + (place + 1) + ", " + place + "]", bench -> {
                        Try.cursor(row, LIST, 2, at, "").on(bench);
                        bench.insert(2, 5);
                        return Try.list(bench.nextPlace(2), bench.previousPlace(2));
                    });
                }
                Try.due("into none", "[1, -10001, 5]", bench -> {
                    bench.open(2, row, LIST, 0);
                    return Try.list(bench.insert(2, 5), bench.next(2), bench.previous(2));
                });
                Try.due("one behind the other", "[10, 5, 6, 20]", bench -> {
                    Try.cursor(row, LIST, 2, 1, "").on(bench);
                    bench.insert(2, 5);
                    bench.insert(2, 6);
                    return Shown.row(bench, row);
                });
                Try.due("behind a step back", "[5, 10, 20]", bench -> {
                    Try.cursor(row, LIST, 2, 1, "p").on(bench);
                    bench.insert(2, 5);
                    return Shown.row(bench, row);
                });
                Try.due("where one was removed", "[10, 5, 30]", bench -> {
                    Try.cursor(row, LIST, 3, 0, "nn").on(bench);
                    bench.remove(2);
                    bench.insert(2, 5);
                    return Shown.row(bench, row);
                });
            }
        });
    }

    private static void ends() {
        Sentence.of("Cursors", "To go on over the last number, or back over the first one, is refused with "
                + "NO_ELEMENT.", () -> {
            for (int[] kind : KINDS) {
                for (int many : new int[] {0, 1, 2, 40}) {
                    Try.Calls end = Try.cursor(kind[0], kind[1], many, 0, "n".repeat(many));
                    Try.still("on, of " + many, end, NO_ELEMENT, bench -> bench.next(2));
                    if (many > 0) {
                        Try.due("on over the last of " + many, kind[1] == BACK ? 10 : 10 * many, bench -> {
                            Try.cursor(kind[0], kind[1], many, 0, "n".repeat(many - 1)).on(bench);
                            return bench.next(2);
                        });
                    }
                }
            }
            for (int row : LISTS) {
                for (int kind = LIST; kind <= VIEW; kind++) {
                    for (int many : new int[] {0, 1, 2, 40}) {
                        Try.Calls front = Try.cursor(row, kind, many, many, "p".repeat(many));
                        Try.still("back, of " + many, front, NO_ELEMENT, bench -> bench.previous(2));
                    }
                    Try.Calls first = Try.cursor(row, kind, 3, 1, "");
                    Try.due("back over the first", 10, bench -> {
                        first.on(bench);
                        return bench.previous(2);
                    });
                }
            }
        });
    }

    private static void noMove() {
        Sentence.of("Cursors", "What is refused is no move.", () -> {
            for (int[] kind : KINDS) {
                boolean goesBack = kind[1] < FORTH;
                int removed = kind[1] == VIEW ? UNSUPPORTED : 1;
                Try.due("on over the last, then remove", Try.list(NO_ELEMENT, removed), bench -> {
                    Try.cursor(kind[0], kind[1], 2, 0, "nn").on(bench);
                    return Try.list(bench.next(2), bench.remove(2));
                });
                Try.due("all that is refused, then on", kind[1] == BACK ? 10 : 20, bench -> {
                    Try.cursor(kind[0], kind[1], 2, 0, "n").on(bench);
                    refuse(bench, kind[1]);
                    return bench.next(2);
                });
                if (!goesBack) {
                    Try.due("all that is refused, then remove", 1, bench -> {
                        Try.cursor(kind[0], kind[1], 2, 0, "n").on(bench);
                        refuse(bench, kind[1]);
                        return bench.remove(2);
                    });
                }
            }
            for (int row : LISTS) {
                Try.due("on over the last, then replace", "[-10001, 20]", bench -> {
                    Try.cursor(row, LIST, 2, 0, "nn").on(bench);
                    return Try.list(bench.next(2), bench.replace(2, 5));
                });
                Try.due("back over the first, then replace", "[-10001, 10]", bench -> {
                    Try.cursor(row, LIST, 2, 1, "p").on(bench);
                    return Try.list(bench.previous(2), bench.replace(2, 5));
                });
                Try.due("back over the first, then remove", "[-10001, 1, [20]]", bench -> {
                    Try.cursor(row, LIST, 2, 1, "p").on(bench);
                    return Try.list(bench.previous(2), bench.remove(2), Shown.row(bench, row));
                });
                Try.due("on over the last, behind what was inserted", "[3, -10001, -10002, -10002]", bench -> {
                    Try.cursor(row, LIST, 2, 0, "nn").on(bench);
                    return Try.list(bench.insert(2, 5), bench.next(2), bench.remove(2), bench.replace(2, 6));
                });
                Try.due("remove and replace, none told, then on", "[-10002, -10002, 10]", bench -> {
                    Try.cursor(row, LIST, 2, 0, "").on(bench);
                    return Try.list(bench.remove(2), bench.replace(2, 5), bench.next(2));
                });
            }
        });
    }

    /** Calls what such a cursor, which has told a number, is always refused. */
    private static void refuse(CursorBench bench, int kind) {
        if (kind == VIEW) {
            bench.remove(2);
        }
        if (kind != LIST) {
            bench.replace(2, 5);
            bench.insert(2, 5);
        }
        if (kind == FORTH || kind == BACK) {
            bench.previous(2);
            bench.hasPrevious(2);
            bench.nextPlace(2);
            bench.previousPlace(2);
        }
    }

    private static void gone() {
        Sentence.of("Cursors", "If numbers come to a row, or are removed from it, in another way than by a cursor "
                + "itself, this cursor is gone, and its slot is empty.", () -> {
            for (int row : ROWS) {
                RowSentences.losesAll(row, bench -> bench.append(row, 5));
                RowSentences.losesAll(row, bench -> bench.dropFirst(row));
                RowSentences.losesAll(row, bench -> bench.fill(row, 1, 1, 1));
                RowSentences.losesAll(row, bench -> bench.clear(row));
                RowSentences.losesAll(row, bench -> bench.sieve(row, 30, 0));
            }
            for (int row : new int[] {ARRAY, LINKED, DEQUE}) {
                RowSentences.losesAll(row, bench -> bench.merge((row + 1) % 4, (row + 1) % 4, row));
                Try.due("unlike", false, bench -> {
                    Try.put(bench, row, 7, 8, 8);
                    bench.open(0, row, FORTH, 0);
                    bench.unlike(row);
                    return bench.isOpen(0);
                });
            }
            for (int row : LISTS) {
                RowSentences.losesAll(row, bench -> bench.twice(row));
                keepsOne(row, LIST, bench -> bench.insert(3, 5));
                keepsOne(row, LIST, bench -> bench.next(3) + bench.remove(3));
                keepsOne(row, LIST, bench -> {
                    Try.write(bench, "a5");
                    return bench.play(3);
                });
            }
            for (int[] kind : KINDS) {
                if (kind[1] != VIEW) {
                    keepsOne(kind[0], kind[1], bench -> bench.next(3) + bench.remove(3));
                    keepsOne(kind[0], kind[1], bench -> {
                        Try.write(bench, "nr");
                        return bench.play(3);
                    });
                }
            }
        });
    }

    /** The calls of the cursor in slot 3 leave it and those of other rows, and no other one of its row. */
    private static void keepsOne(int row, int kind, Try.Call call) {
        for (int[] other : KINDS) {
            if (other[0] == row) {
                Try.due("the cursors that are left", "1 3", bench -> {
                    bench.fill(row, 10, 10, 3);
                    bench.open(0, row, other[1], 0);
                    bench.open(1, (row + 1) % 4, FORTH, 0);
                    bench.open(3, row, kind, 0);
                    bench.open(4, row, other[1], 0);
                    call.on(bench);
                    return Shown.standing(bench);
                });
            }
        }
    }

    private static void replaced() {
        Sentence.of("Cursors", "(If a number is replaced, no cursor is gone; all of them see the new number.)",
                () -> {
            for (int row : LISTS) {
                seeReplaced(row, bench -> {
                    bench.open(0, row, LIST, 1);
                    bench.next(0);
                    bench.replace(0, 5);
                });
                seeReplaced(row, bench -> {
                    Try.write(bench, "s5");
                    bench.open(0, row, LIST, 2);
                    bench.previous(0);
                    bench.play(0);
                });
                seeReplaced(row, bench -> {
                    bench.open(0, row, LIST, 0);
                    bench.next(0);
                    bench.replace(0, 30);
                    bench.next(0);
                    bench.replace(0, 5);
                    bench.next(0);
                    bench.replace(0, 10);
                    bench.turn(row);
                });
            }
        });
    }

    /** The calls, which use slot 0, put 5 in the place of the second one of three numbers. */
    private static void seeReplaced(int row, Try.Calls calls) {
        Try.due("in the row", "[10, 5, 30]", bench -> {
            bench.fill(row, 10, 10, 3);
            calls.on(bench);
            return Shown.row(bench, row);
        });
        for (int[] kind : KINDS) {
            if (kind[0] == row) {
                Try.due("seen by kind " + kind[1], "[true, true, 5]", bench -> {
                    bench.fill(row, 10, 10, 3);
                    bench.open(2, row, kind[1], 0);
                    bench.next(2);
                    calls.on(bench);
                    return Try.list(bench.isOpen(0), bench.isOpen(2), bench.next(2));
                });
            }
        }
        for (int kind = LIST; kind <= VIEW; kind++) {
            int asked = kind;
            Try.due("seen from behind", 5, bench -> {
                bench.fill(row, 10, 10, 3);
                bench.open(2, row, asked, 2);
                calls.on(bench);
                return bench.previous(2);
            });
        }
        Try.due("told", 5, bench -> {
            bench.fill(row, 10, 10, 3);
            bench.open(2, row, LIST, 2);
            bench.previous(2);
            calls.on(bench);
            return bench.replace(2, 6);
        });
    }
}
