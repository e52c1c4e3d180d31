/** Promises 16, 18 and 21 to 24, sentence by sentence: cursors go, and change their rows. */
final class MoveSentences extends Names {
    private MoveSentences() {
    }

    static void all() {
        promise16();
        promise18();
        promise21();
        promise22();
        promise23();
        promise23Throws();
        promise24();
    }

    private static void promise16() {
        Sentence.of("Promise 16", "Lets a cursor go on over the next number.", () -> {
            for (int[] kind : KINDS) {
                Try.due("one at a time", "[true, true, false]", bench -> {
                    Try.cursor(kind[0], kind[1], 2, 0, "").on(bench);
                    return Try.each(bench, b -> b.hasNext(2), b -> b.next(2) > 0 && b.hasNext(2),
                            b -> b.next(2) < 0 || b.hasNext(2));
                });
                Try.due("it alone", kind[1] == BACK ? "[20, 20]" : "[10, 10]", bench -> {
                    Try.cursor(kind[0], kind[1], 2, 0, "").on(bench);
                    bench.open(1, kind[0], kind[1], 0);
                    return Try.list(bench.next(1), bench.next(2));
                });
                Try.due("the row stays", "[10, 20]", bench -> {
                    Try.cursor(kind[0], kind[1], 2, 0, "nn").on(bench);
                    return Shown.row(bench, kind[0]);
                });
            }
            for (int row : LISTS) {
                for (int kind = LIST; kind <= VIEW; kind++) {
                    Try.Calls start = Try.cursor(row, kind, 40, 38, "");
                    Try.due("its places", "[39, 40]", bench -> {
                        start.on(bench);
                        return Try.each(bench, b -> b.next(2) * 0 + b.nextPlace(2),
                                b -> b.next(2) * 0 + b.nextPlace(2));
                    });
                }
            }
        });
        SameSentences.slots("Promise 16", CursorBench::next);
        Sentence.of("Promise 16", "Returns this number, or NO_ELEMENT.", () -> {
            for (int[] kind : KINDS) {
                boolean isBack = kind[1] == BACK;
                Try.due("of least and most", isBack ? "[999, 0, -999, -10001]" : "[-999, 0, 999, -10001]", bench -> {
                    Try.put(bench, kind[0], -999, 0, 999);
                    bench.open(2, kind[0], kind[1], 0);
                    return Try.each(bench, b -> b.next(2), b -> b.next(2), b -> b.next(2), b -> b.next(2));
                });
                Try.still("of none", Try.cursor(kind[0], kind[1], 0, 0, ""), NO_ELEMENT, bench -> bench.next(2));
                Try.still("behind 40", Try.cursor(kind[0], kind[1], 40, 0, "n".repeat(40)), NO_ELEMENT,
                        bench -> bench.next(2));
                Try.due("the 40th", isBack ? 10 : 400, bench -> {
                    Try.cursor(kind[0], kind[1], 40, 0, "n".repeat(39)).on(bench);
                    return bench.next(2);
                });
            }
        });
    }

    private static void promise18() {
        Sentence.of("Promise 18", "Lets a cursor go back over the number in front of it.", () -> {
            for (int row : LISTS) {
                for (int kind = LIST; kind <= VIEW; kind++) {
                    Try.Calls start = Try.cursor(row, kind, 40, 2, "");
                    Try.due("its places", "[1, 0, 0]", bench -> {
                        start.on(bench);
                        return Try.each(bench, b -> b.previous(2) * 0 + b.nextPlace(2),
                                b -> b.previous(2) * 0 + b.nextPlace(2), b -> b.previous(2) * 0 + b.nextPlace(2));
                    });
                    Try.due("to and fro", "[20, 20, 20, 30]", bench -> {
                        start.on(bench);
                        return Try.each(bench, b -> b.previous(2), b -> b.next(2), b -> b.previous(2),
                                b -> b.next(2) * 0 + b.next(2));
                    });
                }
            }
        });
        SameSentences.slots("Promise 18", CursorBench::previous);
        Sentence.of("Promise 18", "Returns this number, or NO_ELEMENT or UNSUPPORTED.", () -> {
            for (int row : LISTS) {
                for (int kind = LIST; kind <= VIEW; kind++) {
                    int asked = kind;
                    Try.due("of least and most", "[999, 0, -999, -10001]", bench -> {
                        Try.put(bench, row, -999, 0, 999);
                        bench.open(2, row, asked, 3);
                        return Try.each(bench, b -> b.previous(2), b -> b.previous(2), b -> b.previous(2),
                                b -> b.previous(2));
                    });
                    Try.still("of none", Try.cursor(row, kind, 0, 0, ""), NO_ELEMENT, bench -> bench.previous(2));
                    Try.still("in front", Try.cursor(row, kind, 40, 0, ""), NO_ELEMENT, bench -> bench.previous(2));
                    Try.still("back over the first", Try.cursor(row, kind, 40, 1, "p"), NO_ELEMENT,
                            bench -> bench.previous(2));
                }
            }
            for (int[] kind : KINDS) {
                if (kind[1] >= FORTH) {
                    for (String moves : new String[] {"", "n", "nn", "nnn"}) {
                        Try.still("of " + kind[1], Try.cursor(kind[0], kind[1], 2, 0, moves), UNSUPPORTED,
                                bench -> bench.previous(2));
                    }
                    Try.still("of " + kind[1], Try.cursor(kind[0], kind[1], 0, 0, ""), UNSUPPORTED,
                            bench -> bench.previous(2));
                }
            }
        });
    }

    private static void promise21() {
        Sentence.of("Promise 21", "Lets a cursor remove the number that it has told; all other cursors of its row "
                + "are gone.", () -> {
            for (int[] kind : KINDS) {
                if (kind[1] == VIEW) {
                    continue;
                }
                String[] left = {"[20, 30]", "[10, 30]", "[10, 20]"};
                for (int went = 1; went <= 3; went++) {
                    String moves = "n".repeat(went);
                    Try.due("number " + went, left[kind[1] == BACK ? 3 - went : went - 1], bench -> {
                        Try.cursor(kind[0], kind[1], 3, 0, moves).on(bench);
                        bench.remove(2);
                        return Shown.row(bench, kind[0]);
                    });
                }
                for (int[] other : KINDS) {
                    for (int many : new int[] {1, 3, 40}) {
                        Try.due("the others, of " + many, other[0] == kind[0] ? "2" : "0 2 4", bench -> {
                            bench.fill(other[0], 10, 10, 3);
                            Try.cursor(kind[0], kind[1], many, 0, "n").on(bench);
                            bench.open(0, other[0], other[1], 0);
                            bench.open(4, other[0], other[1], 0);
                            bench.remove(2);
                            return Shown.standing(bench);
                        });
                    }
                }
            }
            for (int row : LISTS) {
                String[] left = {"[20, 30]", "[10, 30]", "[10, 20]"};
                for (int place = 1; place <= 3; place++) {
                    int at = place;
                    Try.due("behind it", "[" + left[place - 1] + ", " + (place - 1) + "]", bench -> {
                        Try.cursor(row, LIST, 3, at, "p").on(bench);
                        bench.remove(2);
                        return Try.list(Shown.row(bench, row), bench.nextPlace(2));
                    });
                    Try.due("in front of it", "[" + left[place - 1] + ", " + (place - 1) + "]", bench -> {
                        Try.cursor(row, LIST, 3, at - 1, "n").on(bench);
                        bench.remove(2);
                        return Try.list(Shown.row(bench, row), bench.nextPlace(2));
                    });
                }
            }
        });
        SameSentences.slots("Promise 21", CursorBench::remove);
        Sentence.of("Promise 21", "Returns how many numbers the row has then, or NO_STATE or UNSUPPORTED.", () -> {
            for (int[] kind : KINDS) {
                for (int many : new int[] {1, 2, 40}) {
                    Try.due("of " + many, kind[1] == VIEW ? UNSUPPORTED : many - 1, bench -> {
                        Try.cursor(kind[0], kind[1], many, 0, "n").on(bench);
                        return bench.remove(2);
                    });
                }
                for (int many : new int[] {0, 1, 40}) {
                    Try.still("none told of " + many, Try.cursor(kind[0], kind[1], many, 0, ""),
                            kind[1] == VIEW ? UNSUPPORTED : NO_STATE, bench -> bench.remove(2));
                }
            }
        });
    }

    private static void promise22() {
        Sentence.of("Promise 22", "Lets a cursor replace the number that it has told.", () -> {
            for (int row : LISTS) {
                String[] rows = {"[5, 20, 30]", "[10, 5, 30]", "[10, 20, 5]"};
                for (int place = 1; place <= 3; place++) {
                    int at = place;
                    Try.due("behind it", "[" + rows[place - 1] + ", " + (place - 1) + "]", bench -> {
                        Try.cursor(row, LIST, 3, at, "p").on(bench);
                        bench.replace(2, 5);
                        return Try.list(Shown.row(bench, row), bench.nextPlace(2));
                    });
                    Try.due("in front of it", "[" + rows[place - 1] + ", " + place + "]", bench -> {
                        Try.cursor(row, LIST, 3, at - 1, "n").on(bench);
                        bench.replace(2, 5);
                        return Try.list(Shown.row(bench, row), bench.nextPlace(2));
                    });
                }
                Try.due("the last of 40", 5, bench -> {
                    Try.cursor(row, LIST, 40, 40, "p").on(bench);
                    bench.replace(2, 5);
                    return bench.at(row, 39);
                });
            }
        });
        SameSentences.slots("Promise 22", (bench, slot) -> bench.replace(slot, 5));
        Sentence.of("Promise 22", "- `value`: -999 to 999", () -> {
            for (int row : LISTS) {
                for (int value : new int[] {-999, 0, 999}) {
                    Try.due("" + value, value, bench -> {
                        Try.cursor(row, LIST, 3, 1, "n").on(bench);
                        bench.replace(2, value);
                        return bench.at(row, 1);
                    });
                }
            }
            SameSentences.isBad(NO_VALUES, (bench, value) -> bench.replace(0, value));
        });
        Sentence.of("Promise 22", "Returns the number before, or NO_STATE or UNSUPPORTED.", () -> {
            for (int row : LISTS) {
                Try.due("least and most", "[10, -999, 999]", bench -> {
                    Try.cursor(row, LIST, 1, 0, "n").on(bench);
                    return Try.list(bench.replace(2, -999), bench.replace(2, 999), bench.replace(2, 0));
                });
            }
            for (int[] kind : KINDS) {
                for (int many : new int[] {0, 1, 40}) {
                    Try.still("none told of " + many, Try.cursor(kind[0], kind[1], many, 0, ""),
                            kind[1] == LIST ? NO_STATE : UNSUPPORTED, bench -> bench.replace(2, 5));
                    if (kind[1] != LIST) {
                        Try.still("told of " + many, Try.cursor(kind[0], kind[1], many, 0, "n"), UNSUPPORTED,
                                bench -> bench.replace(2, 5));
                    }
                }
            }
        });
        Sentence.of("Promise 22", "Throws `IllegalArgumentException` if value is out of range", () -> {
            for (int slot : SLOTS) {
                SameSentences.isBad(NO_VALUES, (bench, value) -> bench.replace(slot, value));
            }
        });
    }

    private static void promise23() {
        Sentence.of("Promise 23", "Lets a cursor insert a number; all other cursors of its row are gone.", () -> {
            for (int row : LISTS) {
                for (int[] other : KINDS) {
                    Try.due("the others", other[0] == row ? "2" : "0 2 4", bench -> {
                        bench.fill(other[0], 10, 10, 3);
                        Try.cursor(row, LIST, 3, 1, "").on(bench);
                        bench.open(0, other[0], other[1], 0);
                        bench.open(4, other[0], other[1], 0);
                        bench.insert(2, 5);
                        return Shown.standing(bench);
                    });
                }
                for (int place = 0; place <= 39; place++) {
                    int at = place;
                    Try.due("at " + place, "[5, " + (place + 1) + ", 40]", bench -> {
                        Try.cursor(row, LIST, 39, at, "").on(bench);
                        bench.insert(2, 5);
                        return Try.list(bench.at(row, at), bench.nextPlace(2), bench.size(row));
                    });
                }
            }
        });
        Sentence.of("Promise 23", "The cursor has told no number then.", () -> {
            for (int row : LISTS) {
                for (String moves : new String[] {"", "n", "p"}) {
                    Try.Calls start = bench -> {
                        Try.cursor(row, LIST, 3, 1, moves).on(bench);
                        bench.insert(2, 5);
                    };
                    Try.still("to remove", start, NO_STATE, bench -> bench.remove(2));
                    Try.still("to replace", start, NO_STATE, bench -> bench.replace(2, 6));
                }
            }
        });
        SameSentences.anySlots("Promise 23", (bench, slot) -> bench.insert(slot, 5));
        Sentence.of("Promise 23", "- `value`: -999 to 999", () -> {
            for (int row : LISTS) {
                for (int value : new int[] {-999, 0, 999}) {
                    Try.due("" + value, value, bench -> {
                        Try.cursor(row, LIST, 3, 1, "n").on(bench);
                        bench.insert(2, value);
                        return bench.previous(2);
                    });
                }
            }
            SameSentences.isBad(NO_VALUES, (bench, value) -> bench.insert(0, value));
        });
    }

    private static void promise23Throws() {
        Sentence.of("Promise 23", "Returns how many numbers the row has then, or UNSUPPORTED.", () -> {
            for (int row : LISTS) {
                Try.due("of none", "[1, 2, 3]", bench -> {
                    bench.open(2, row, LIST, 0);
                    return Try.list(bench.insert(2, 5), bench.insert(2, 5), bench.insert(2, 6));
                });
                Try.due("of 39", 40, bench -> {
                    Try.cursor(row, LIST, 39, 39, "").on(bench);
                    return bench.insert(2, 5);
                });
            }
            for (int[] kind : KINDS) {
                if (kind[1] != LIST) {
                    for (int many : new int[] {0, 1, 39, 40}) {
                        Try.still("of " + many, Try.cursor(kind[0], kind[1], many, 0, "n"), UNSUPPORTED,
                                bench -> bench.insert(2, 5));
                    }
                }
            }
        });
        Sentence.of("Promise 23", "Throws `IllegalArgumentException` if value is out of range", () -> {
            for (int slot : SLOTS) {
                SameSentences.isBad(NO_VALUES, (bench, value) -> bench.insert(slot, value));
            }
        });
        Sentence.of("Promise 23", "Throws `IllegalStateException` if the slot is empty, or its kind is LIST and the "
                + "row has 40 numbers", () -> {
            SameSentences.failsIfEmpty((bench, slot) -> bench.insert(slot, 5));
            for (int row : LISTS) {
                for (int place : new int[] {0, 20, 40}) {
                    for (String moves : new String[] {"", "n", "p"}) {
                        Try.fails("of 40", Try.cursor(row, LIST, 40, place, moves), STATE, bench -> bench.insert(2, 5));
                    }
                }
                Try.fails("behind the 40th", bench -> {
                    Try.cursor(row, LIST, 39, 7, "n").on(bench);
                    bench.insert(2, 5);
                }, STATE, bench -> bench.insert(2, 6));
                Try.due("room again", "[39, 40]", bench -> {
                    Try.cursor(row, LIST, 40, 7, "n").on(bench);
                    return Try.list(bench.remove(2), bench.insert(2, 5));
                });
            }
            for (int[] kind : KINDS) {
                if (kind[1] != LIST) {
                    Try.still("another kind, of 40", Try.cursor(kind[0], kind[1], 40, 0, ""), UNSUPPORTED,
                            bench -> bench.insert(2, 5));
                }
            }
        });
    }

    private static void promise24() {
        Sentence.of("Promise 24", "Lets a cursor go on over all numbers behind it; then its slot is empty.", () -> {
            for (int[] kind : KINDS) {
                for (int many : new int[] {0, 1, 40}) {
                    Try.due("it alone, of " + many, "0", bench -> {
                        Try.cursor(kind[0], kind[1], many, 0, "n").on(bench);
                        bench.open(0, kind[0], kind[1], 0);
                        bench.rest(2);
                        return Shown.standing(bench);
                    });
                    Try.due("the row stays", many, bench -> {
                        Try.cursor(kind[0], kind[1], many, 0, "n").on(bench);
                        bench.rest(2);
                        return bench.size(kind[0]);
                    });
                }
                Try.due("a second time", "throws java.lang.IllegalStateException", bench -> {
                    Try.cursor(kind[0], kind[1], 3, 0, "").on(bench);
                    bench.rest(2);
                    return bench.rest(2);
                });
            }
        });
        SameSentences.slots("Promise 24", CursorBench::rest);
        Sentence.of("Promise 24", "Returns a digest of these numbers, in the order in which it goes over them, as "
                + "digest() tells.", () -> {
            for (int[] kind : KINDS) {
                boolean isBack = kind[1] == BACK;
                for (int many : new int[] {0, 1, 2, 40}) {
                    for (int went = 0; went <= many; went += many == 40 ? 8 : 1) {
                        int digest = 7;
                        for (int index = went; index < many; index++) {
                            digest = 31 * digest + (isBack ? 10 * (many - index) : 10 * (index + 1));
                        }
                        String moves = "n".repeat(went);
                        Try.due(went + " of " + many, digest, bench -> {
                            Try.cursor(kind[0], kind[1], many, 0, moves).on(bench);
                            return bench.rest(2);
                        });
                    }
                }
                if (!isBack) {
                    Try.due("of all", true, bench -> {
                        Try.cursor(kind[0], kind[1], 40, 0, "").on(bench);
                        return bench.rest(2) == bench.digest(kind[0]);
                    });
                }
            }
            for (int row : LISTS) {
                Try.due("back over the last", 7 * 31 + 30, bench -> {
                    Try.cursor(row, LIST, 3, 3, "p").on(bench);
                    return bench.rest(2);
                });
            }
        });
    }
}
