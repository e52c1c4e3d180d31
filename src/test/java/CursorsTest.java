/** Promises 10 to 24: cursors in their slots. */
public final class CursorsTest extends Names {
    public static void main(String[] args) {
        promise10();
        promise10Refused();
        promise11To14();
        promise15And16();
        promise17To20();
        oneWayIsUnsupported();
        promise21();
        promise21Back();
        promise22();
        promise23();
        promise23Full();
        promise24();
        noSuchSlot();
        emptySlot();
        toldThroughRefusals();
        Check.end("CursorsTest");
    }

    /** A bench whose rows all have 10, 20, and so on. */
    private static CursorBench filled(int many) {
        CursorBench bench = new CursorBench();
        for (int row = 0; row < Shown.ROWS; row++) {
            bench.fill(row, 10, 10, many);
        }
        return bench;
    }

    /** The same with three numbers, and a cursor in slot 0. */
    private static CursorBench withCursor(int row, int kind, int place) {
        CursorBench bench = filled(3);
        bench.open(0, row, kind, place);
        return bench;
    }

    private static void promise10() {
        for (int row = 0; row < Shown.ROWS; row++) {
            CursorBench bench = filled(3);
            for (int kind = -1; kind <= 4; kind++) {
                int here = row;
                int asked = kind;
                if (isKind(row, kind)) {
                    Check.due("open", bench.open(4, row, kind, 0), 3);
                    Check.due("its row", bench.rowOf(4), row);
                    Check.due("its kind", bench.kindOf(4), kind);
                    Check.due("has told none", bench.remove(4), kind == VIEW ? UNSUPPORTED : NO_STATE);
                } else {
                    Check.fails("open " + row + " " + kind, bench, BAD, () -> bench.open(0, here, asked, 0));
                }
            }
        }
        CursorBench bench = filled(3);
        for (int place = 0; place <= 3; place++) {
            Check.due("open LIST within", bench.open(place, ARRAY, LIST, place), 3 - place);
            Check.due("its place", bench.nextPlace(place), place);
            Check.due("open VIEW within", bench.open(4, LINKED, VIEW, place), 3 - place);
            Check.due("its place", bench.nextPlace(4), place);
        }
        bench.open(0, ARRAY, LIST, 0);
        bench.next(0);
        Check.due("open in place of another", bench.open(0, ARRAY, LIST, 1), 2);
        Check.due("the new one has told none", bench.replace(0, 5), NO_STATE);
        Check.due("to open loses none", Shown.standing(bench), "0 1 2 3 4");
    }

    private static void promise10Refused() {
        for (int slot : NO_SLOTS) {
            CursorBench bench = withCursor(LINKED, LIST, 2);
            Check.fails("open, no slot", bench, NO_PLACE, () -> bench.open(slot, 0, 9, 0));
            Check.fails("open, no row", bench, NO_PLACE, () -> bench.open(0, slot == 5 ? 4 : slot, 9, 0));
        }
        for (int kind = -1; kind <= 4; kind++) {
            int asked = kind;
            CursorBench bench = withCursor(LINKED, LIST, 2);
            Check.fails("open, place below", bench, NO_PLACE, () -> bench.open(0, LINKED, asked, -1));
            Check.fails("open, place above", bench, NO_PLACE, () -> bench.open(0, LINKED, asked, 4));
            Check.fails("open, place far", bench, NO_PLACE, () -> bench.open(0, LINKED, asked, Integer.MAX_VALUE));
        }
        CursorBench bench = withCursor(LINKED, LIST, 2);
        for (int place = 1; place <= 3; place++) {
            int asked = place;
            Check.fails("FORTH from within", bench, BAD, () -> bench.open(0, ARRAY, FORTH, asked));
            Check.fails("BACK from within", bench, BAD, () -> bench.open(0, DEQUE, BACK, asked));
        }
        Check.fails("no kind below", bench, BAD, () -> bench.open(0, ARRAY, Integer.MIN_VALUE, 0));
        Check.fails("no kind above", bench, BAD, () -> bench.open(0, ARRAY, Integer.MAX_VALUE, 0));
    }

    private static void promise11To14() {
        for (int slot = 0; slot < Shown.SLOTS; slot++) {
            int here = slot;
            CursorBench bench = filled(2);
            Check.still("isOpen", bench, false, () -> bench.isOpen(here));
            Check.still("close none", bench, false, () -> bench.close(here));
            bench.open(slot, DEQUE, BACK, 0);
            bench.open((slot + 1) % 5, LINKED, VIEW, 0);
            Check.still("isOpen", bench, true, () -> bench.isOpen(here));
            Check.still("rowOf", bench, DEQUE, () -> bench.rowOf(here));
            Check.still("kindOf", bench, BACK, () -> bench.kindOf(here));
            Check.due("close", bench.close(slot), true);
            Check.due("closed", bench.isOpen(slot), false);
            Check.due("close closes one slot", bench.isOpen((slot + 1) % 5), true);
            Check.due("close again", bench.close(slot), false);
        }
    }

    private static void promise15And16() {
        for (int row = 0; row < Shown.ROWS; row++) {
            for (int kind = LIST; kind <= BACK; kind++) {
                if (isKind(row, kind)) {
                    goOver(filled(3), row, kind);
                }
            }
        }
        CursorBench bench = new CursorBench();
        bench.open(0, DEQUE, BACK, 0);
        Check.still("hasNext of none", bench, false, () -> bench.hasNext(0));
        Check.still("next of none", bench, NO_ELEMENT, () -> bench.next(0));
    }

    private static void goOver(CursorBench bench, int row, int kind) {
        bench.open(2, row, kind, 0);
        for (int index = 0; index < 3; index++) {
            Check.still("hasNext", bench, true, () -> bench.hasNext(2));
            Check.due("next", bench.next(2), kind == BACK ? 30 - 10 * index : 10 + 10 * index);
        }
        Check.still("hasNext at the end", bench, false, () -> bench.hasNext(2));
        Check.still("next at the end", bench, NO_ELEMENT, () -> bench.next(2));
    }

    private static void promise17To20() {
        for (int row = ARRAY; row <= LINKED; row++) {
            for (int kind = LIST; kind <= VIEW; kind++) {
                CursorBench bench = withCursor(row, kind, 3);
                for (int place = 3; place > 0; place--) {
                    Check.still("hasPrevious", bench, 1, () -> bench.hasPrevious(0));
                    Check.still("nextPlace", bench, place, () -> bench.nextPlace(0));
                    Check.still("previousPlace", bench, place - 1, () -> bench.previousPlace(0));
                    Check.due("previous", bench.previous(0), 10 * place);
                }
                atTheFront(row, kind);
            }
        }
    }

    private static void atTheFront(int row, int kind) {
        CursorBench bench = withCursor(row, kind, 3);
        for (int place = 3; place > 0; place--) {
            bench.previous(0);
        }
        Check.still("hasPrevious at the front", bench, 0, () -> bench.hasPrevious(0));
        Check.still("previous at the front", bench, NO_ELEMENT, () -> bench.previous(0));
        Check.still("nextPlace at the front", bench, 0, () -> bench.nextPlace(0));
        Check.still("previousPlace at the front", bench, NONE, () -> bench.previousPlace(0));
        Check.due("on again", bench.next(0), 10);
        Check.due("back again", bench.previous(0), 10);
    }

    private static void oneWayIsUnsupported() {
        int[][] places = {{ARRAY, FORTH}, {LINKED, FORTH}, {SORTED, FORTH}, {DEQUE, FORTH}, {LINKED, BACK},
            {DEQUE, BACK}};
        for (int[] place : places) {
            for (int went = 0; went < 2; went++) {
                CursorBench bench = filled(40);
                bench.open(0, place[0], place[1], 0);
                bench.open(1, place[0], FORTH, 0);
                for (int move = 0; move < went; move++) {
                    bench.next(0);
                }
                Check.still("hasPrevious", bench, UNSUPPORTED, () -> bench.hasPrevious(0));
                Check.still("previous", bench, UNSUPPORTED, () -> bench.previous(0));
                Check.still("nextPlace", bench, UNSUPPORTED, () -> bench.nextPlace(0));
                Check.still("previousPlace", bench, UNSUPPORTED, () -> bench.previousPlace(0));
                Check.still("replace", bench, UNSUPPORTED, () -> bench.replace(0, 1));
                Check.still("insert into 40", bench, UNSUPPORTED, () -> bench.insert(0, 1));
                Check.fails("replace, bad", bench, BAD, () -> bench.replace(0, 1000));
                Check.fails("insert, bad", bench, BAD, () -> bench.insert(0, -1000));
                Check.due("a refused call leaves what was told", bench.remove(0), went == 0 ? NO_STATE : 39);
            }
        }
    }

    private static void promise21() {
        for (int row = 0; row < Shown.ROWS; row++) {
            for (int kind = LIST; kind <= FORTH; kind += 2) {
                if (!isKind(row, kind)) {
                    continue;
                }
                CursorBench bench = filled(4);
                bench.open(0, row, kind, 0);
                bench.open(1, row, FORTH, 0);
                bench.open(2, (row + 1) % 4, FORTH, 0);
                Check.still("remove, none told", bench, NO_STATE, () -> bench.remove(0));
                bench.next(0);
                bench.next(0);
                Check.due("remove", bench.remove(0), 3);
                Check.due("what is left", Shown.row(bench, row), "[10, 30, 40]");
                Check.due("the others are gone", Shown.standing(bench), "0 2");
                Check.still("remove again", bench, NO_STATE, () -> bench.remove(0));
                Check.due("on behind it", bench.next(0), 30);
                Check.due("on to the last", bench.next(0), 40);
                Check.due("over the last", bench.next(0), NO_ELEMENT);
                Check.due("remove the last, as it was told", bench.remove(0), 2);
                Check.due("what is left", Shown.row(bench, row), "[10, 30]");
            }
        }
        CursorBench bench = filled(3);
        bench.open(0, LINKED, VIEW, 0);
        bench.open(1, LINKED, LIST, 0);
        Check.still("VIEW, none told", bench, UNSUPPORTED, () -> bench.remove(0));
        bench.next(0);
        Check.still("VIEW, told", bench, UNSUPPORTED, () -> bench.remove(0));
    }

    private static void promise21Back() {
        for (int row = ARRAY; row <= LINKED; row++) {
            CursorBench bench = filled(3);
            bench.open(0, row, LIST, 2);
            bench.previous(0);
            Check.due("remove behind", bench.remove(0), 2);
            Check.due("where it stands", bench.nextPlace(0), 1);
            Check.due("what is left", Shown.row(bench, row), "[10, 30]");
            Check.due("on", bench.next(0), 30);
            Check.due("remove in front", bench.remove(0), 1);
            Check.due("where it stands", bench.nextPlace(0), 1);
            Check.due("back", bench.previous(0), 10);
            bench.open(1, row, VIEW, 0);
            bench.open(2, 3, FORTH, 0);
            Check.due("remove the only one", bench.remove(0), 0);
            Check.due("the other is gone", Shown.standing(bench), "0 2");
            Check.due("on over none", bench.next(0), NO_ELEMENT);
            Check.due("back over none", bench.previous(0), NO_ELEMENT);
        }
        for (int row = LINKED; row <= DEQUE; row += 2) {
            CursorBench bench = filled(4);
            bench.open(0, row, BACK, 0);
            bench.open(3, row, BACK, 0);
            bench.next(0);
            Check.due("BACK tells", bench.next(0), 30);
            Check.due("BACK removes", bench.remove(0), 3);
            Check.due("what is left", Shown.row(bench, row), "[10, 20, 40]");
            Check.due("the other is gone", Shown.standing(bench), "0");
            Check.due("BACK again", bench.remove(0), NO_STATE);
            Check.due("BACK goes on", bench.next(0), 20);
            Check.due("BACK goes on", bench.next(0), 10);
            Check.due("BACK removes the first", bench.remove(0), 2);
            Check.due("BACK has none", bench.hasNext(0), false);
            Check.due("what is left", Shown.row(bench, row), "[20, 40]");
        }
    }

    private static void promise22() {
        for (int row = ARRAY; row <= LINKED; row++) {
            CursorBench bench = filled(3);
            bench.open(0, row, LIST, 1);
            bench.open(1, row, VIEW, 1);
            bench.open(2, row, FORTH, 0);
            bench.open(3, row, LIST, 2);
            Check.still("replace, none told", bench, NO_STATE, () -> bench.replace(0, 5));
            Check.still("VIEW, none told", bench, UNSUPPORTED, () -> bench.replace(1, 5));
            bench.next(0);
            bench.previous(3);
            bench.next(2);
            Check.due("replace", bench.replace(0, -999), 20);
            Check.due("replace again", bench.replace(0, 999), -999);
            Check.due("replaced", Shown.row(bench, row), "[10, 999, 30]");
            Check.due("none is gone", Shown.standing(bench), "0 1 2 3");
            Check.due("VIEW sees it", bench.next(1), 999);
            Check.still("VIEW, told", bench, UNSUPPORTED, () -> bench.replace(1, 5));
            Check.due("FORTH sees it", bench.next(2), 999);
            Check.due("the other has told the new one", bench.replace(3, 7), 999);
            Check.fails("replace above", bench, BAD, () -> bench.replace(0, 1000));
            Check.fails("replace below", bench, BAD, () -> bench.replace(0, -1000));
            Check.fails("VIEW, above", bench, BAD, () -> bench.replace(1, 1000));
            Check.due("remove what was replaced", bench.remove(0), 2);
            Check.due("what is left", Shown.row(bench, row), "[10, 30]");
            bench.previous(0);
            Check.due("replace behind", bench.replace(0, 8), 10);
            Check.due("replaced", Shown.row(bench, row), "[8, 30]");
        }
    }

    private static void promise23() {
        for (int row = ARRAY; row <= LINKED; row++) {
            CursorBench bench = filled(2);
            bench.open(0, row, LIST, 1);
            bench.open(1, row, LIST, 0);
            bench.open(2, row, FORTH, 0);
            bench.open(3, 1 - row, LIST, 0);
            bench.previous(0);
            Check.due("insert in front", bench.insert(0, -999), 3);
            Check.due("the others are gone", Shown.standing(bench), "0 3");
            Check.due("inserted", Shown.row(bench, row), "[-999, 10, 20]");
            Check.due("behind it", bench.nextPlace(0), 1);
            Check.still("told none to remove", bench, NO_STATE, () -> bench.remove(0));
            Check.still("told none to replace", bench, NO_STATE, () -> bench.replace(0, 1));
            Check.due("on tells the same as before", bench.next(0), 10);
            Check.due("insert within", bench.insert(0, 5), 4);
            Check.due("back tells it", bench.previous(0), 5);
            Check.due("remove it", bench.remove(0), 3);
            bench.next(0);
            Check.due("insert behind", bench.insert(0, 999), 4);
            Check.due("inserted", Shown.row(bench, row), "[-999, 10, 20, 999]");
            Check.due("over the last", bench.next(0), NO_ELEMENT);
            bench.open(1, row, VIEW, 0);
            Check.still("VIEW", bench, UNSUPPORTED, () -> bench.insert(1, 5));
            Check.fails("insert above", bench, BAD, () -> bench.insert(0, 1000));
            Check.fails("insert below", bench, BAD, () -> bench.insert(0, -1000));
            bench.clear(row);
            bench.open(0, row, LIST, 0);
            Check.due("insert into none", bench.insert(0, 1), 1);
        }
    }

    private static void promise23Full() {
        for (int row = ARRAY; row <= LINKED; row++) {
            CursorBench bench = filled(39);
            bench.open(0, row, LIST, 20);
            Check.due("the 40th", bench.insert(0, 1), 40);
            bench.open(1, row, VIEW, 0);
            bench.previous(0);
            Check.fails("the 41st", bench, STATE, () -> bench.insert(0, 2));
            Check.fails("the 41st, above", bench, BAD, () -> bench.insert(0, 1000));
            Check.still("VIEW of 40", bench, UNSUPPORTED, () -> bench.insert(1, 2));
            Check.due("what throws is no move", bench.remove(0), 39);
            Check.due("room again", bench.insert(0, 3), 40);
            Check.due("where it came", bench.at(row, 20), 3);
        }
    }

    private static void promise24() {
        CursorBench bench = filled(3);
        bench.open(1, ARRAY, FORTH, 0);
        int forth = ((7 * 31 + 10) * 31 + 20) * 31 + 30;
        int back = ((7 * 31 + 30) * 31 + 20) * 31 + 10;
        for (int row = 0; row < Shown.ROWS; row++) {
            for (int kind = LIST; kind <= BACK; kind++) {
                if (isKind(row, kind)) {
                    bench.open(0, row, kind, 0);
                    Check.due("rest of all", bench.rest(0), kind == BACK ? back : forth);
                    Check.due("rest empties the slot alone", Shown.standing(bench), "1");
                    bench.open(0, row, kind, 0);
                    bench.next(0);
                    bench.next(0);
                    Check.due("rest of one", bench.rest(0), 7 * 31 + (kind == BACK ? 10 : 30));
                    bench.open(0, row, kind, 0);
                    bench.next(0);
                    bench.next(0);
                    bench.next(0);
                    Check.due("rest of none", bench.rest(0), 7);
                    Check.due("rest empties the slot", bench.isOpen(0), false);
                }
            }
            Check.due("rest changes no row", Shown.row(bench, row), "[10, 20, 30]");
        }
    }

    private static void noSuchSlot() {
        for (int slot : NO_SLOTS) {
            CursorBench bench = withCursor(ARRAY, LIST, 1);
            Check.fails("close", bench, NO_PLACE, () -> bench.close(slot));
            Check.fails("isOpen", bench, NO_PLACE, () -> bench.isOpen(slot));
            Check.fails("replace", bench, NO_PLACE, () -> bench.replace(slot, 1000));
            Check.fails("insert", bench, NO_PLACE, () -> bench.insert(slot, 1000));
            failsAsSlot(withCursor(ARRAY, LIST, 1), slot, NO_PLACE);
        }
    }

    private static void emptySlot() {
        for (int slot = 1; slot < Shown.SLOTS; slot++) {
            int here = slot;
            CursorBench bench = withCursor(ARRAY, LIST, 1);
            Check.fails("replace", bench, STATE, () -> bench.replace(here, 999));
            Check.fails("insert", bench, STATE, () -> bench.insert(here, -999));
            Check.fails("replace, bad", bench, BAD, () -> bench.replace(here, 1000));
            Check.fails("insert, bad", bench, BAD, () -> bench.insert(here, -1000));
            failsAsSlot(withCursor(ARRAY, LIST, 1), slot, STATE);
        }
        CursorBench bench = withCursor(ARRAY, LIST, 1);
        bench.clear(ARRAY);
        failsAsSlot(bench, 0, STATE);
    }

    private static void failsAsSlot(CursorBench bench, int slot, Class<? extends RuntimeException> want) {
        Check.fails("rowOf", bench, want, () -> bench.rowOf(slot));
        Check.fails("kindOf", bench, want, () -> bench.kindOf(slot));
        Check.fails("hasNext", bench, want, () -> bench.hasNext(slot));
        Check.fails("next", bench, want, () -> bench.next(slot));
        Check.fails("hasPrevious", bench, want, () -> bench.hasPrevious(slot));
        Check.fails("previous", bench, want, () -> bench.previous(slot));
        Check.fails("nextPlace", bench, want, () -> bench.nextPlace(slot));
        Check.fails("previousPlace", bench, want, () -> bench.previousPlace(slot));
        Check.fails("remove", bench, want, () -> bench.remove(slot));
        Check.fails("rest", bench, want, () -> bench.rest(slot));
    }

    /** What is refused, or only asked, is no move: what was told stays told. */
    private static void toldThroughRefusals() {
        for (int row = ARRAY; row <= LINKED; row++) {
            CursorBench bench = filled(2);
            bench.open(0, row, LIST, 0);
            bench.next(0);
            bench.previous(0);
            Check.due("back over the first", bench.previous(0), NO_ELEMENT);
            bench.hasNext(0);
            bench.hasPrevious(0);
            bench.nextPlace(0);
            bench.previousPlace(0);
            Check.due("it has told the first", bench.replace(0, 11), 10);
            Check.due("back over the first", bench.previous(0), NO_ELEMENT);
            Check.due("it has told the first", bench.remove(0), 1);
            Check.due("what is left", Shown.row(bench, row), "[20]");
        }
    }
}
