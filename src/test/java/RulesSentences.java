/** The Terms "1. Rules" and "2. Rows", sentence by sentence. */
final class RulesSentences extends Names {
    private static final int[] NO_PLACES = {-1, 6, Integer.MIN_VALUE, Integer.MAX_VALUE};
    private static final int[] NO_KINDS = {-1, 4, Integer.MIN_VALUE, Integer.MAX_VALUE};

    private RulesSentences() {
    }

    static void all() {
        Sentence.of("Rules", "If several exceptions apply to a call, the one that is listed first is thrown; a call "
                + "that throws an exception changes nothing.", () -> {
            noRowFirst();
            noSlotFirst();
            noPlaceFirst();
            badFirst();
        });
        Sentence.of("Rules", "An IndexOutOfBoundsException is thrown for a row, a slot or a place that does not "
                + "exist.", RulesSentences::whatDoesNotExist);
        Sentence.of("Rules", "Some calls of cursors are refused (asked behind all exceptions): they return "
                + "NO_ELEMENT, NO_STATE or UNSUPPORTED then, and change nothing.", () -> {
            refused();
            askedBehindExceptions();
        });
        fourRows();
        order();
        sortedRow();
        lastCalls();
    }

    private static void noRowFirst() {
        for (int none : NO_ROWS) {
            Try.fails("append", Try::busy, NO_PLACE, bench -> bench.append(none, 1000));
            Try.fails("fill, first", Try::busy, NO_PLACE, bench -> bench.fill(none, 1000, 0, 0));
            Try.fails("fill, step", Try::busy, NO_PLACE, bench -> bench.fill(none, 0, 21, 0));
            Try.fails("fill, many", Try::busy, NO_PLACE, bench -> bench.fill(none, 0, 0, 41));
            Try.fails("fill, a number", Try::busy, NO_PLACE, bench -> bench.fill(none, 999, 1, 2));
            Try.fails("open, kind", Try::busy, NO_PLACE, bench -> bench.open(0, none, 4, 0));
            Try.fails("open, place", Try::busy, NO_PLACE, bench -> bench.open(0, none, FORTH, 1));
            Try.fails("sieve, modulus", Try::busy, NO_PLACE, bench -> bench.sieve(none, 0, 0));
            Try.fails("sieve, rest", Try::busy, NO_PLACE, bench -> bench.sieve(none, 1, 100));
            Try.fails("merge, to SORTED", Try::busy, NO_PLACE, bench -> bench.merge(none, ARRAY, SORTED));
            Try.fails("merge, to SORTED", Try::busy, NO_PLACE, bench -> bench.merge(ARRAY, none, SORTED));
            Try.fails("merge, to one of both", Try::busy, NO_PLACE, bench -> bench.merge(none, ARRAY, ARRAY));
            Try.fails("merge, to one of both", Try::busy, NO_PLACE, bench -> bench.merge(ARRAY, none, ARRAY));
            Try.fails("merge, to one of both", Try::busy, NO_PLACE, bench -> bench.merge(none, ARRAY, none));
            Try.fails("merge, to one of both", Try::busy, NO_PLACE, bench -> bench.merge(ARRAY, none, none));
            Try.fails("merge, 80 numbers", RulesSentences::full, NO_PLACE, bench -> bench.merge(ARRAY, LINKED, none));
            Try.fails("merge, 80 numbers", RulesSentences::full, NO_PLACE, bench -> bench.merge(none, LINKED, ARRAY));
            Try.fails("merge, 80 numbers", RulesSentences::full, NO_PLACE, bench -> bench.merge(ARRAY, none, DEQUE));
        }
    }

    private static void noSlotFirst() {
        for (int none : NO_SLOTS) {
            Try.fails("open, kind", Try::busy, NO_PLACE, bench -> bench.open(none, ARRAY, 4, 0));
            Try.fails("open, kind of the row", Try::busy, NO_PLACE, bench -> bench.open(none, DEQUE, LIST, 0));
            Try.fails("open, place", Try::busy, NO_PLACE, bench -> bench.open(none, DEQUE, BACK, 1));
            Try.fails("replace", Try::busy, NO_PLACE, bench -> bench.replace(none, 1000));
            Try.fails("insert", Try::busy, NO_PLACE, bench -> bench.insert(none, -1000));
            Try.fails("play, an error", RulesSentences::wrongText, NO_PLACE, bench -> bench.play(none));
        }
    }

    private static void noPlaceFirst() {
        for (int place : NO_PLACES) {
            for (int row : ROWS) {
                for (int kind = LIST; kind <= BACK; kind++) {
                    int asked = kind;
                    Try.fails("open, kind " + kind, Try::busy, NO_PLACE, bench -> bench.open(0, row, asked, place));
                }
                for (int kind : NO_KINDS) {
                    Try.fails("open, no kind", Try::busy, NO_PLACE, bench -> bench.open(0, row, kind, place));
                }
            }
        }
    }

    private static void badFirst() {
        for (int value : NO_VALUES) {
            for (int row : ROWS) {
                Try.fails("append to 40", RulesSentences::full, BAD, bench -> bench.append(row, value));
            }
            for (int slot : SLOTS) {
                Try.fails("replace, empty", bench -> { }, BAD, bench -> bench.replace(slot, value));
                Try.fails("insert, empty", bench -> { }, BAD, bench -> bench.insert(slot, value));
            }
            for (int row : LISTS) {
                Try.fails("insert into 40", Try.cursor(row, LIST, 40, 3, "n"), BAD, bench -> bench.insert(2, value));
            }
        }
        Try.fails("twice SORTED with 40", RulesSentences::full, BAD, bench -> bench.twice(SORTED));
        Try.fails("twice DEQUE with 40", RulesSentences::full, BAD, bench -> bench.twice(DEQUE));
        Try.fails("merge 80 to SORTED", RulesSentences::full, BAD, bench -> bench.merge(ARRAY, LINKED, SORTED));
        Try.fails("merge 80 to the first", RulesSentences::full, BAD, bench -> bench.merge(ARRAY, LINKED, ARRAY));
        Try.fails("merge 80 to the second", RulesSentences::full, BAD, bench -> bench.merge(ARRAY, DEQUE, DEQUE));
        Try.fails("merge 80 to both", RulesSentences::full, BAD, bench -> bench.merge(LINKED, LINKED, LINKED));
    }

    /** All rows have 40 numbers, and three of them a cursor. */
    private static void full(CursorBench bench) {
        for (int row : ROWS) {
            bench.fill(row, 10, 10, 40);
        }
        bench.open(0, ARRAY, LIST, 1);
        bench.next(0);
        bench.open(1, LINKED, LIST, 40);
        bench.open(3, DEQUE, BACK, 0);
        bench.next(3);
    }

    private static void wrongText(CursorBench bench) {
        Try.busy(bench);
        bench.type('x');
    }

    private static void whatDoesNotExist() {
        SameSentences.PartCall[] rowCalls = {(bench, row) -> bench.append(row, 100), CursorBench::dropFirst,
            (bench, row) -> bench.fill(row, 0, 0, 0), CursorBench::clear, CursorBench::size,
            (bench, row) -> bench.at(row, 0), CursorBench::digest, (bench, row) -> bench.isSame(row, DEQUE),
            (bench, row) -> bench.isSame(DEQUE, row), (bench, row) -> bench.open(0, row, FORTH, 0),
            (bench, row) -> bench.sieve(row, 1, 0), CursorBench::unlike, CursorBench::turn, CursorBench::twice,
            (bench, row) -> bench.merge(row, SORTED, DEQUE), (bench, row) -> bench.merge(SORTED, row, DEQUE),
            (bench, row) -> bench.merge(SORTED, SORTED, row), CursorBench::errors, CursorBench::meanValue};
        for (SameSentences.PartCall call : rowCalls) {
            SameSentences.isNoPlace(NO_ROWS, call);
        }
        SameSentences.PartCall[] slotCalls = {(bench, slot) -> bench.open(slot, DEQUE, FORTH, 0), CursorBench::close,
            CursorBench::isOpen, CursorBench::rowOf, CursorBench::kindOf, CursorBench::hasNext, CursorBench::next,
            CursorBench::hasPrevious, CursorBench::previous, CursorBench::nextPlace, CursorBench::previousPlace,
            CursorBench::remove, (bench, slot) -> bench.replace(slot, 0), (bench, slot) -> bench.insert(slot, 0),
            CursorBench::rest, CursorBench::play};
        for (SameSentences.PartCall call : slotCalls) {
            SameSentences.isNoPlace(NO_SLOTS, call);
        }
        for (int row : ROWS) {
            for (int place : NO_PLACES) {
                Try.fails("at " + place, Try::busy, NO_PLACE, bench -> bench.at(row, place));
                Try.fails("open at " + place, Try::busy, NO_PLACE, bench -> bench.open(0, row, FORTH, place));
            }
            Try.fails("at the size", Try::busy, NO_PLACE, bench -> bench.at(row, 5));
        }
        for (int row : LISTS) {
            for (int place : NO_PLACES) {
                Try.fails("open at " + place, Try::busy, NO_PLACE, bench -> bench.open(0, row, LIST, place));
                Try.fails("open at " + place, Try::busy, NO_PLACE, bench -> bench.open(0, row, VIEW, place));
            }
        }
    }

    /** Every refused call, of rows with no number, with one and with 40. */
    private static void refused() {
        for (int[] kind : KINDS) {
            boolean goesBack = kind[1] == LIST || kind[1] == VIEW;
            for (int many : new int[] {0, 1, 40}) {
                Try.Calls start = besideOthers(kind, many, "");
                Try.Calls one = besideOthers(kind, many, "n");
                Try.Calls end = besideOthers(kind, many, "n".repeat(many));
                Try.still("next", end, NO_ELEMENT, bench -> bench.next(2));
                Try.still("previous", start, goesBack ? NO_ELEMENT : UNSUPPORTED, bench -> bench.previous(2));
                Try.still("remove", start, kind[1] == VIEW ? UNSUPPORTED : NO_STATE, bench -> bench.remove(2));
                Try.still("replace", start, kind[1] == LIST ? NO_STATE : UNSUPPORTED, bench -> bench.replace(2, 5));
                if (kind[1] == VIEW) {
                    Try.still("remove", one, UNSUPPORTED, bench -> bench.remove(2));
                }
                if (kind[1] != LIST) {
                    Try.still("replace", one, UNSUPPORTED, bench -> bench.replace(2, 5));
                    Try.still("insert", start, UNSUPPORTED, bench -> bench.insert(2, 5));
                    Try.still("insert", one, UNSUPPORTED, bench -> bench.insert(2, 5));
                }
                if (!goesBack) {
                    Try.still("previous", one, UNSUPPORTED, bench -> bench.previous(2));
                    Try.still("hasPrevious", one, UNSUPPORTED, bench -> bench.hasPrevious(2));
                    Try.still("nextPlace", one, UNSUPPORTED, bench -> bench.nextPlace(2));
                    Try.still("previousPlace", one, UNSUPPORTED, bench -> bench.previousPlace(2));
                }
            }
        }
    }

    /** A cursor in slot 2, and others of its row, of which one has told a number too. */
    private static Try.Calls besideOthers(int[] kind, int many, String moves) {
        return bench -> {
            Try.cursor(kind[0], kind[1], many, 0, moves).on(bench);
            bench.open(0, kind[0], FORTH, 0);
            bench.next(0);
            bench.open(4, kind[0], kind[1], 0);
        };
    }

    private static void askedBehindExceptions() {
        for (int[] kind : KINDS) {
            for (String moves : new String[] {"", "n"}) {
                Try.Calls start = Try.cursor(kind[0], kind[1], 40, 0, moves);
                Try.fails("replace above", start, BAD, bench -> bench.replace(2, 1000));
                Try.fails("replace below", start, BAD, bench -> bench.replace(2, -1000));
                Try.fails("insert above", start, BAD, bench -> bench.insert(2, 1000));
                Try.fails("insert below", start, BAD, bench -> bench.insert(2, -1000));
            }
        }
    }

    private static void fourRows() {
        Sentence.of("Rows", "There are four rows: ARRAY, LINKED, SORTED and DEQUE, with at most 40 numbers each "
                + "(-999 to 999), all empty at first.", () -> {
            Try.due("at first", "[0, 0, 0, 0]", bench -> Try.each(bench, b -> b.size(ARRAY), b -> b.size(LINKED),
                    b -> b.size(SORTED), b -> b.size(DEQUE)));
            SameSentences.isNoPlace(new int[] {-1, 4}, CursorBench::size);
            Try.due("each for itself", "[[1], [2], [3], [4]]", bench -> {
                for (int row : ROWS) {
                    bench.append(row, row + 1);
                }
                return Try.list(Shown.row(bench, 0), Shown.row(bench, 1), Shown.row(bench, 2), Shown.row(bench, 3));
            });
            for (int row : ROWS) {
                Try.due("40 by append", 40, bench -> {
                    for (int number = 1; number <= 40; number++) {
                        bench.append(row, number);
                    }
                    return bench.size(row);
                });
                Try.fails("41 by append", RulesSentences::full, STATE, bench -> bench.append(row, 999));
                Try.due("40 by fill", 40, bench -> bench.fill(row, 1, 1, 40));
                Try.fails("41 by fill", Try::busy, BAD, bench -> bench.fill(row, 1, 1, 41));
                Try.due("least and most", "[-999, 999]", bench -> {
                    Try.put(bench, row, -999, 999);
                    return Shown.row(bench, row);
                });
                SameSentences.isBad(NO_VALUES, (bench, value) -> bench.append(row, value));
                SameSentences.isBad(NO_VALUES, (bench, value) -> bench.fill(row, value, 0, 1));
            }
            for (int row : LISTS) {
                mostInLists(row);
            }
        });
    }

    private static void mostInLists(int row) {
        Try.due("40 by insert", 40, bench -> {
            Try.cursor(row, LIST, 39, 7, "n").on(bench);
            return bench.insert(2, 5);
        });
        Try.fails("41 by insert", Try.cursor(row, LIST, 40, 7, "n"), STATE, bench -> bench.insert(2, 5));
        Try.due("40 by twice", 40, bench -> {
            bench.fill(row, 1, 1, 20);
            return bench.twice(row);
        });
        Try.fails("42 by twice", Try.cursor(row, LIST, 21, 7, "n"), STATE, bench -> bench.twice(row));
        Try.due("40 by merge", 40, bench -> {
            bench.fill(SORTED, 1, 1, 39);
            bench.fill(DEQUE, 1, 1, 1);
            return bench.merge(SORTED, DEQUE, row);
        });
        Try.fails("41 by merge", bench -> {
            bench.fill(SORTED, 1, 1, 40);
            bench.fill(DEQUE, 1, 1, 1);
            bench.open(0, row, FORTH, 0);
        }, STATE, bench -> bench.merge(SORTED, DEQUE, row));
        Try.due("40 by play", "[2, 40]", bench -> {
            Try.cursor(row, LIST, 38, 7, "").on(bench);
            Try.write(bench, "3(a1)");
            return Try.list(bench.play(2), bench.size(row));
        });
        Try.due("least and most by insert and replace", "[999, -999, 30]", bench -> {
            Try.cursor(row, LIST, 3, 0, "nn").on(bench);
            bench.replace(2, 999);
            bench.previous(2);
            bench.replace(2, -999);
            bench.previous(2);
            bench.replace(2, 999);
            bench.remove(2);
            bench.insert(2, 999);
            return Shown.row(bench, row);
        });
        SameSentences.isBad(NO_VALUES, (bench, value) -> bench.insert(0, value));
        SameSentences.isBad(NO_VALUES, (bench, value) -> bench.replace(0, value));
    }

    private static void order() {
        Sentence.of("Rows", "The numbers of a row stand in an order, at the places 0, 1, and so on.", () -> {
            for (int row : ROWS) {
                Try.due("at", "[3, 5, 7]", bench -> {
                    bench.fill(row, 3, 2, 3);
                    return Try.each(bench, b -> b.at(row, 0), b -> b.at(row, 1), b -> b.at(row, 2));
                });
                Try.due("at, behind the first", "[5, 7, 9]", bench -> {
                    bench.fill(row, 3, 2, 3);
                    bench.dropFirst(row);
                    bench.append(row, 9);
                    return Try.each(bench, b -> b.at(row, 0), b -> b.at(row, 1), b -> b.at(row, 2));
                });
                Try.fails("ahead of place 0", Try::busy, NO_PLACE, bench -> bench.at(row, -1));
                Try.fails("behind the last place", Try::busy, NO_PLACE, bench -> bench.at(row, 5));
                Try.fails("place 0 of none", bench -> { }, NO_PLACE, bench -> bench.at(row, 0));
            }
        });
    }

    private static void sortedRow() {
        Sentence.of("Rows", "In the row SORTED each number is there once, and they stand in rising order; in the "
                + "other rows the same number can be there more than once.", () -> {
            Try.due("by append", "[-999, -64, -1, 0, 1, 63, 64, 65, 999]", bench -> {
                Try.put(bench, SORTED, 64, 999, -1, 0, 65, -999, 63, 1, -64, 0, 64, -999, 999);
                return Shown.row(bench, SORTED);
            });
            Try.due("by fill with the same", "[4]", bench -> {
                bench.fill(SORTED, 4, 0, 40);
                return Shown.row(bench, SORTED);
            });
            Try.due("by fill falling", "[-4, -1, 2]", bench -> {
                bench.fill(SORTED, 2, -3, 3);
                return Shown.row(bench, SORTED);
            });
            for (int row : new int[] {ARRAY, LINKED, DEQUE}) {
                Try.due("by append", "[4, -1, 4, 4]", bench -> {
                    Try.put(bench, row, 4, -1, 4, 4);
                    return Shown.row(bench, row);
                });
                Try.due("by fill", 40, bench -> bench.fill(row, 4, 0, 40));
            }
        });
    }

    /** Not of the Terms, but it binds them all: the last call that is promised answers like each other one. */
    private static void lastCalls() {
        Check.about("An object is used for at most 512 calls: ");
        for (int row : ROWS) {
            Try.due("the 512th, append", true, bench -> {
                for (int call = 1; call <= 510; call += 2) {
                    bench.append(row, 5);
                    bench.dropFirst(row);
                }
                bench.size(row);
                return bench.append(row, -999);
            });
        }
        for (int row : LISTS) {
            Try.due("the 512th, remove", 0, bench -> {
                bench.size(row);
                bench.open(4, row, LIST, 0);
                for (int call = 3; call <= 509; call += 3) {
                    bench.insert(4, 5);
                    bench.previous(4);
                    bench.remove(4);
                }
                bench.insert(4, 6);
                return bench.previous(4) + bench.remove(4) - 6;
            });
        }
        Try.due("the 512th, play", 300, bench -> {
            bench.fill(ARRAY, 1, 1, 1);
            Try.write(bench, "20(10(np))");
            for (int call = 5; call <= 510; call++) {
                bench.open(0, ARRAY, LIST, 0);
            }
            bench.errorKind();
            return bench.play(0);
        });
        Check.about("");
    }
}
