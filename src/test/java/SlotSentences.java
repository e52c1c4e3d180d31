/** Promises 10 to 15, 17, 19 and 20, sentence by sentence: cursors come and go, and are asked where they stand. */
final class SlotSentences extends Names {
    private SlotSentences() {
    }

    static void all() {
        promise10();
        promise10Parameters();
        promise10Throws();
        promise11();
        promise12();
        promise13();
        promise14();
        promise15();
        promise17();
        promise19();
        promise20();
    }

    private static void promise10() {
        Sentence.of("Promise 10", "Puts a new cursor into a slot, in place of the one that is there, if there is one.",
                () -> {
            for (int slot : SLOTS) {
                Try.due("into an empty slot", "" + slot, bench -> {
                    bench.open(slot, LINKED, BACK, 0);
                    return Shown.standing(bench);
                });
                Try.due("in place of another", "[3, 3, 9, 0 1 2 3 4]", bench -> {
                    Try.busy(bench);
                    bench.open(slot, DEQUE, BACK, 0);
                    return Try.list(bench.rowOf(slot), bench.kindOf(slot), bench.next(slot), Shown.standing(bench));
                });
                Try.due("in place of one of its row and kind", "[1, 0, 7]", bench -> {
                    Try.busy(bench);
                    bench.open(slot, LINKED, LIST, 1);
                    bench.next(slot);
                    bench.open(slot, LINKED, LIST, 0);
                    return Try.list(bench.rowOf(slot), bench.nextPlace(slot), bench.next(slot));
                });
            }
            Try.due("rows stay", "[10, 20, 30, 40, 50] [7, 7, -3, 7, 0]", bench -> {
                Try.busy(bench);
                bench.open(0, LINKED, LIST, 5);
                return Shown.row(bench, ARRAY) + " " + Shown.row(bench, LINKED);
            });
        });
        Sentence.of("Promise 10", "It has told no number.", () -> {
            for (int[] kind : KINDS) {
                Try.Calls again = bench -> {
                    Try.cursor(kind[0], kind[1], 3, 0, "n").on(bench);
                    bench.open(2, kind[0], kind[1], 0);
                };
                Try.Calls afterList = bench -> {
                    Try.cursor(ARRAY, LIST, 3, 0, "n").on(bench);
                    bench.fill(kind[0], 10, 10, 3);
                    bench.open(2, ARRAY, LIST, 0);
                    bench.next(2);
                    bench.open(2, kind[0], kind[1], 0);
                };
                int refused = kind[1] == VIEW ? UNSUPPORTED : NO_STATE;
                Try.still("to remove", Try.cursor(kind[0], kind[1], 3, 0, ""), refused, bench -> bench.remove(2));
                Try.still("to remove, opened again", again, refused, bench -> bench.remove(2));
                Try.still("to remove, behind another", afterList, refused, bench -> bench.remove(2));
                int unset = kind[1] == LIST ? NO_STATE : UNSUPPORTED;
                Try.still("to replace", Try.cursor(kind[0], kind[1], 3, 0, ""), unset, bench -> bench.replace(2, 5));
                Try.still("to replace, opened again", again, unset, bench -> bench.replace(2, 5));
                Try.still("to replace, behind another", afterList, unset, bench -> bench.replace(2, 5));
            }
        });
        Sentence.of("Promise 10", "Returns how many numbers are behind it.", () -> {
            for (int[] kind : KINDS) {
                for (int many : new int[] {0, 1, 40}) {
                    Try.due("of " + many, many, bench -> {
                        bench.fill(kind[0], 10, 10, many);
                        return bench.open(2, kind[0], kind[1], 0);
                    });
                    if (kind[1] < FORTH) {
                        Try.due("behind all of " + many, 0, bench -> {
                            bench.fill(kind[0], 10, 10, many);
                            return bench.open(2, kind[0], kind[1], many);
                        });
                    }
                }
            }
        });
    }

    private static void promise10Parameters() {
        Sentence.of("Promise 10", "- `slot`: 0 to 4", () -> {
            SameSentences.isTaken(SLOTS, (bench, slot) -> bench.open(slot, ARRAY, LIST, 0));
            SameSentences.isNoPlace(new int[] {-1, 5}, (bench, slot) -> bench.open(slot, SORTED, FORTH, 0));
        });
        Sentence.of("Promise 10", "- `row`: ARRAY to DEQUE", () -> {
            SameSentences.isTaken(ROWS, (bench, row) -> bench.open(0, row, FORTH, 0));
            SameSentences.isNoPlace(new int[] {-1, 4}, (bench, row) -> bench.open(0, row, FORTH, 0));
        });
        Sentence.of("Promise 10", "- `kind`: LIST to BACK", () -> {
            SameSentences.isTaken(new int[] {LIST, VIEW, FORTH, BACK}, (bench, kind) -> bench.open(0, LINKED, kind, 0));
            SameSentences.isBad(new int[] {-1, 4}, (bench, kind) -> bench.open(0, LINKED, kind, 0));
        });
        Sentence.of("Promise 10", "- `place`: how many numbers are in front of the cursor; for FORTH and BACK it "
                + "must be 0", () -> {
            for (int row : LISTS) {
                for (int kind = LIST; kind <= VIEW; kind++) {
                    int asked = kind;
                    for (int place = 0; place <= 40; place++) {
                        int at = place;
                        Try.due("place " + place, "[" + (40 - place) + ", " + place + "]", bench -> {
                            bench.fill(row, 10, 10, 40);
                            return Try.list(bench.open(2, row, asked, at), bench.nextPlace(2));
                        });
                    }
                }
            }
            for (int[] kind : KINDS) {
                if (kind[1] >= FORTH) {
                    for (int place = 1; place <= 5; place++) {
                        int at = place;
                        Try.fails("place " + place, Try::busy, BAD, bench -> bench.open(0, kind[0], kind[1], at));
                    }
                }
            }
        });
    }

    private static void promise10Throws() {
        Sentence.of("Promise 10", "Throws `IndexOutOfBoundsException` if there is no such slot or row, or place is "
                + "not from 0 to the number of numbers of the row", () -> {
            SameSentences.isNoPlace(NO_SLOTS, (bench, slot) -> bench.open(slot, ARRAY, FORTH, 0));
            SameSentences.isNoPlace(NO_ROWS, (bench, row) -> bench.open(0, row, FORTH, 0));
            for (int[] kind : KINDS) {
                for (int many : new int[] {0, 1, 40}) {
                    Try.Calls start = Try.cursor(kind[0], kind[1], many, 0, "n");
                    for (int place : new int[] {-1, many + 1, Integer.MIN_VALUE, Integer.MAX_VALUE}) {
                        Try.fails("place " + place + " of " + many, start, NO_PLACE,
                                bench -> bench.open(2, kind[0], kind[1], place));
                    }
                }
            }
        });
        Sentence.of("Promise 10", "Throws `IllegalArgumentException` if there is no such kind for this row, or place "
                + "is not 0 for FORTH or BACK", () -> {
            for (int row : ROWS) {
                for (int kind : new int[] {-1, LIST, VIEW, FORTH, BACK, 4, Integer.MIN_VALUE, Integer.MAX_VALUE}) {
                    if (!isKind(row, kind)) {
                        Try.fails("kind " + kind, Try::busy, BAD, bench -> bench.open(0, row, kind, 0));
                        Try.fails("in a row of none", bench -> { }, BAD, bench -> bench.open(0, row, kind, 0));
                        Try.fails("behind all", Try::busy, BAD, bench -> bench.open(0, row, kind, 5));
                    } else if (kind >= FORTH) {
                        Try.fails("behind one", Try::busy, BAD, bench -> bench.open(0, row, kind, 1));
                        Try.fails("behind all", Try::busy, BAD, bench -> bench.open(0, row, kind, 5));
                    }
                }
            }
        });
    }

    private static void promise11() {
        Sentence.of("Promise 11", "Empties a slot.", () -> {
            for (int slot : SLOTS) {
                Try.due("it alone", "0 1 2 3 4".replaceFirst(slot == 0 ? "0 " : " " + slot, ""), bench -> {
                    Try.busy(bench);
                    bench.close(slot);
                    return Shown.standing(bench);
                });
                Try.due("rows stay", "[[10, 20, 30, 40, 50], [7, 7, -3, 7, 0], [-4, -1, 2, 5, 8], [9, 1, 9, 2, 9]]",
                        bench -> {
                    Try.busy(bench);
                    bench.close(slot);
                    return Try.list(Shown.row(bench, 0), Shown.row(bench, 1), Shown.row(bench, 2), Shown.row(bench, 3));
                });
                Try.still("an empty one stays empty", bench -> {
                    Try.busy(bench);
                    bench.close(slot);
                }, false, bench -> bench.close(slot));
            }
        });
        SameSentences.anySlots("Promise 11", CursorBench::close);
        Sentence.of("Promise 11", "Returns whether there was a cursor.", () -> {
            for (int slot : SLOTS) {
                Try.due("none, one, none, one that is gone", "[false, true, false, false]", bench -> {
                    boolean atFirst = bench.close(slot);
                    bench.open(slot, ARRAY, LIST, 0);
                    boolean opened = bench.close(slot);
                    boolean closed = bench.close(slot);
                    bench.open(slot, ARRAY, LIST, 0);
                    bench.append(ARRAY, 1);
                    return Try.list(atFirst, opened, closed, bench.close(slot));
                });
            }
        });
    }

    private static void promise12() {
        Sentence.of("Promise 12", "Tells whether there is a cursor in a slot.", () -> {
            for (int slot : SLOTS) {
                Try.still("one", Try::busy, true, bench -> bench.isOpen(slot));
                Try.still("none", bench -> {
                    Try.busy(bench);
                    bench.close(slot);
                }, false, bench -> bench.isOpen(slot));
                Try.still("one that is gone", bench -> {
                    Try.busy(bench);
                    bench.clear(bench.rowOf(slot));
                }, false, bench -> bench.isOpen(slot));
            }
        });
        SameSentences.anySlots("Promise 12", CursorBench::isOpen);
        Sentence.of("Promise 12", "Returns whether there is.", () -> {
            for (int slot : SLOTS) {
                Try.due("as they come and go", "[false, true, false, true, false]", bench -> {
                    boolean atFirst = bench.isOpen(slot);
                    bench.open(slot, DEQUE, BACK, 0);
                    boolean opened = bench.isOpen(slot);
                    bench.close(slot);
                    boolean closed = bench.isOpen(slot);
                    bench.open(slot, DEQUE, FORTH, 0);
                    boolean again = bench.isOpen(slot);
                    bench.rest(slot);
                    return Try.list(atFirst, opened, closed, again, bench.isOpen(slot));
                });
            }
        });
    }

    private static void promise13() {
        Sentence.of("Promise 13", "Returns the row of a cursor.", () -> {
            int[] rows = {ARRAY, LINKED, SORTED, DEQUE, LINKED};
            for (int slot : SLOTS) {
                Try.still("of slot " + slot, Try::busy, rows[slot], bench -> bench.rowOf(slot));
            }
        });
        SameSentences.slots("Promise 13", CursorBench::rowOf);
        Sentence.of("Promise 13", "Returns ARRAY to DEQUE.", () -> {
            for (int[] kind : KINDS) {
                for (int many : new int[] {0, 40}) {
                    Try.still("of " + many, Try.cursor(kind[0], kind[1], many, 0, "n"), kind[0],
                            bench -> bench.rowOf(2));
                }
            }
        });
    }

    private static void promise14() {
        Sentence.of("Promise 14", "Returns the kind of a cursor.", () -> {
            int[] kinds = {LIST, VIEW, FORTH, BACK, LIST};
            for (int slot : SLOTS) {
                Try.still("of slot " + slot, Try::busy, kinds[slot], bench -> bench.kindOf(slot));
            }
        });
        SameSentences.slots("Promise 14", CursorBench::kindOf);
        Sentence.of("Promise 14", "Returns LIST to BACK.", () -> {
            for (int[] kind : KINDS) {
                for (int many : new int[] {0, 40}) {
                    Try.still("of " + many, Try.cursor(kind[0], kind[1], many, 0, "n"), kind[1],
                            bench -> bench.kindOf(2));
                }
            }
        });
    }

    private static void promise15() {
        Sentence.of("Promise 15", "Tells whether a number is behind a cursor.", () -> {
            for (int[] kind : KINDS) {
                for (int many : new int[] {0, 1, 2, 40}) {
                    for (int went = 0; went <= many; went += many == 40 ? 13 : 1) {
                        Try.still(went + " of " + many, Try.cursor(kind[0], kind[1], many, 0, "n".repeat(went)),
                                went < many, bench -> bench.hasNext(2));
                    }
                }
                if (kind[1] < FORTH) {
                    Try.still("behind all", Try.cursor(kind[0], kind[1], 40, 40, ""), false, bench -> bench.hasNext(2));
                    Try.still("back over one", Try.cursor(kind[0], kind[1], 40, 40, "p"), true,
                            bench -> bench.hasNext(2));
                }
            }
        });
        SameSentences.slots("Promise 15", CursorBench::hasNext);
        Sentence.of("Promise 15", "Returns whether there is one.", () -> {
            for (int[] kind : KINDS) {
                if (kind[1] != VIEW) {
                    Try.due("as numbers go", "[true, true, false]", bench -> {
                        Try.cursor(kind[0], kind[1], 2, 0, "").on(bench);
                        return Try.each(bench, b -> b.hasNext(2), b -> b.next(2) * 0 + b.remove(2) == 1 && b.hasNext(2),
                                b -> b.next(2) * 0 + b.remove(2) != 0 || b.hasNext(2));
                    });
                }
            }
            for (int row : LISTS) {
                Try.due("as numbers come", "[false, 1, false, true]", bench -> {
                    bench.open(2, row, LIST, 0);
                    return Try.each(bench, b -> b.hasNext(2), b -> b.insert(2, 5), b -> b.hasNext(2),
                            b -> b.previous(2) == 5 && b.hasNext(2));
                });
            }
        });
    }

    private static void promise17() {
        Sentence.of("Promise 17", "Tells whether a number is in front of a cursor.", () -> {
            for (int row : LISTS) {
                for (int kind = LIST; kind <= VIEW; kind++) {
                    for (int many : new int[] {0, 1, 2, 40}) {
                        Try.Calls front = Try.cursor(row, kind, many, 0, "");
                        Try.Calls end = Try.cursor(row, kind, many, many, "");
                        Try.Calls again = Try.cursor(row, kind, many, many, "p".repeat(many));
                        Try.still("in front of " + many, front, 0, bench -> bench.hasPrevious(2));
                        Try.still("behind " + many, end, many == 0 ? 0 : 1, bench -> bench.hasPrevious(2));
                        Try.still("back over " + many, again, 0, bench -> bench.hasPrevious(2));
                    }
                    Try.still("behind the first", Try.cursor(row, kind, 2, 0, "n"), 1, bench -> bench.hasPrevious(2));
                }
            }
        });
        SameSentences.slots("Promise 17", CursorBench::hasPrevious);
        Sentence.of("Promise 17", "Returns 1 if there is one, 0 if not, or UNSUPPORTED.", () -> {
            asked("[0, 1, 0, 1, 0]", CursorBench::hasPrevious);
        });
    }

    /** A LIST cursor is asked at the front, behind one, back again, behind one that was inserted, and without it. */
    private static void asked(String want, SameSentences.PartCall call) {
        for (int row : LISTS) {
            Try.due("of LIST", want, bench -> {
                Try.cursor(row, LIST, 2, 0, "").on(bench);
                Object front = call.on(bench, 2);
                bench.next(2);
                Object one = call.on(bench, 2);
                bench.previous(2);
                Object again = call.on(bench, 2);
                bench.insert(2, 5);
                Object inserted = call.on(bench, 2);
                bench.previous(2);
                bench.remove(2);
                return Try.list(front, one, again, inserted, call.on(bench, 2));
            });
        }
        for (int[] kind : KINDS) {
            if (kind[1] >= FORTH) {
                for (int many : new int[] {0, 1, 40}) {
                    Try.still("of " + kind[1], Try.cursor(kind[0], kind[1], many, 0, ""), UNSUPPORTED,
                            bench -> call.on(bench, 2));
                    Try.still("of " + kind[1], Try.cursor(kind[0], kind[1], many, 0, "n"), UNSUPPORTED,
                            bench -> call.on(bench, 2));
                }
            }
        }
    }

    /** Where LIST and VIEW cursors stand in rows of none, one, and 40: at the front, behind one, and behind all. */
    private static void stands(int behind, SameSentences.PartCall call) {
        for (int row : LISTS) {
            for (int kind = LIST; kind <= VIEW; kind++) {
                for (int many : new int[] {0, 1, 40}) {
                    Try.still("in front of " + many, Try.cursor(row, kind, many, 0, ""), behind,
                            bench -> call.on(bench, 2));
                    Try.still("behind " + many, Try.cursor(row, kind, many, many, ""), many + behind,
                            bench -> call.on(bench, 2));
                    Try.still("on over " + many, Try.cursor(row, kind, many, 0, "n".repeat(many)), many + behind,
                            bench -> call.on(bench, 2));
                    Try.still("back over " + many, Try.cursor(row, kind, many, many, "p".repeat(many)), behind,
                            bench -> call.on(bench, 2));
                }
                Try.still("within", Try.cursor(row, kind, 40, 17, ""), 17 + behind, bench -> call.on(bench, 2));
                Try.still("ahead of the last", Try.cursor(row, kind, 40, 40, "p"), 39 + behind,
                        bench -> call.on(bench, 2));
            }
        }
    }

    private static void promise19() {
        Sentence.of("Promise 19", "Returns the place of the number behind a cursor.", () -> {
            stands(0, CursorBench::nextPlace);
        });
        SameSentences.slots("Promise 19", CursorBench::nextPlace);
        Sentence.of("Promise 19", "Returns its place (that of the last number and one, if there is none), or "
                + "UNSUPPORTED.", () -> {
            asked("[0, 1, 0, 1, 0]", CursorBench::nextPlace);
            for (int row : LISTS) {
                Try.due("behind the last as it is removed", "[2, 1, 0]", bench -> {
                    Try.cursor(row, LIST, 2, 0, "nn").on(bench);
                    return Try.each(bench, b -> b.nextPlace(2), b -> b.remove(2) * 0 + b.nextPlace(2),
                            b -> b.previous(2) * 0 + b.remove(2) * 0 + b.nextPlace(2));
                });
            }
        });
    }

    private static void promise20() {
        Sentence.of("Promise 20", "Returns the place of the number in front of a cursor.", () -> {
            stands(-1, CursorBench::previousPlace);
        });
        SameSentences.slots("Promise 20", CursorBench::previousPlace);
        Sentence.of("Promise 20", "Returns its place, -1 if there is none, or UNSUPPORTED.", () -> {
            asked("[-1, 0, -1, 0, -1]", CursorBench::previousPlace);
        });
    }
}
