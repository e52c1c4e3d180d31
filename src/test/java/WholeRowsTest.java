/** Promises 25 to 29 and 37 to 39: what is done to whole rows, and told of the whole bench. */
public final class WholeRowsTest extends Names {
    public static void main(String[] args) {
        promise25();
        promise25Refused();
        promise26();
        promise27();
        promise28();
        promise29();
        promise29Refused();
        promise37();
        promise38();
        promise39();
        Check.end("WholeRowsTest");
    }

    private static void put(CursorBench bench, int row, int... numbers) {
        bench.clear(row);
        for (int number : numbers) {
            bench.append(row, number);
        }
    }

    private static void openTwo(CursorBench bench, int row) {
        bench.open(0, row, FORTH, 0);
        bench.open(1, (row + 1) % 4, FORTH, 0);
    }

    private static void promise25() {
        for (int row = 0; row < Shown.ROWS; row++) {
            int here = row;
            CursorBench bench = new CursorBench();
            bench.fill(row, -5, 1, 11);
            openTwo(bench, row);
            Check.due("sieve", bench.sieve(row, 3, 1), 4);
            Check.due("rests of numbers below 0", Shown.row(bench, row), "[-4, -3, -1, 0, 2, 3, 5]");
            Check.due("the cursors of the row are gone", Shown.standing(bench), "1");
            bench.open(0, row, FORTH, 0);
            Check.still("sieve none", bench, 0, () -> bench.sieve(here, 3, 1));
            Check.still("a rest that can't be", bench, 0, () -> bench.sieve(here, 3, 3));
            Check.still("a rest far above", bench, 0, () -> bench.sieve(here, 1, 99));
            Check.due("sieve one", bench.sieve(row, 100, 96), 1);
            Check.due("the cursors are gone for one", Shown.standing(bench), "1");
            Check.due("what is left", Shown.row(bench, row), "[-3, -1, 0, 2, 3, 5]");
            Check.due("sieve all", bench.sieve(row, 1, 0), 6);
            Check.due("what is left", Shown.row(bench, row), "[]");
            bench.open(0, row, FORTH, 0);
            Check.still("sieve an empty row", bench, 0, () -> bench.sieve(here, 1, 0));
        }
    }

    private static void promise25Refused() {
        for (int row = 0; row < Shown.ROWS; row++) {
            int here = row;
            CursorBench bench = new CursorBench();
            bench.fill(row, -5, 1, 11);
            bench.open(row, row, FORTH, 0);
            Check.fails("modulus 0", bench, BAD, () -> bench.sieve(here, 0, 0));
            Check.fails("modulus below", bench, BAD, () -> bench.sieve(here, -1, 0));
            Check.fails("modulus above", bench, BAD, () -> bench.sieve(here, 101, 0));
            Check.fails("rest below", bench, BAD, () -> bench.sieve(here, 1, -1));
            Check.fails("rest above", bench, BAD, () -> bench.sieve(here, 100, 100));
        }
        CursorBench bench = new CursorBench();
        for (int row : NO_ROWS) {
            Check.fails("sieve, no row", bench, NO_PLACE, () -> bench.sieve(row, 0, -1));
        }
    }

    private static void promise26() {
        for (int row = 0; row < Shown.ROWS; row++) {
            int here = row;
            if (row == SORTED) {
                continue;
            }
            CursorBench bench = new CursorBench();
            put(bench, row, 1, 1, 1, 2, 1, 3, 3, -4, -4, -4, -4);
            openTwo(bench, row);
            Check.due("unlike", bench.unlike(row), 6);
            Check.due("what is left", Shown.row(bench, row), "[1, 2, 1, 3, -4]");
            Check.due("the cursors of the row are gone", Shown.standing(bench), "1");
            bench.open(0, row, FORTH, 0);
            Check.still("unlike none", bench, 0, () -> bench.unlike(here));
            put(bench, row, 4, 2, 2);
            bench.open(0, row, FORTH, 0);
            Check.due("unlike one", bench.unlike(row), 1);
            Check.due("the cursors are gone for one", Shown.standing(bench), "1");
            bench.fill(row, 6, 0, 40);
            Check.due("unlike all", bench.unlike(row), 39);
            Check.due("what is left", Shown.row(bench, row), "[6]");
        }
        CursorBench bench = new CursorBench();
        bench.fill(SORTED, 1, 1, 40);
        bench.open(0, SORTED, FORTH, 0);
        Check.still("unlike SORTED", bench, 0, () -> bench.unlike(SORTED));
        bench.open(1, LINKED, FORTH, 0);
        Check.still("unlike an empty row", bench, 0, () -> bench.unlike(LINKED));
        for (int row : NO_ROWS) {
            Check.fails("unlike, no row", bench, NO_PLACE, () -> bench.unlike(row));
        }
    }

    private static void promise27() {
        for (int row = ARRAY; row <= LINKED; row++) {
            int here = row;
            CursorBench bench = new CursorBench();
            Check.still("turn none", bench, 0, () -> bench.turn(here));
            bench.append(row, 5);
            Check.still("turn one", bench, 1, () -> bench.turn(here));
            put(bench, row, 1, 2, 3, 4);
            bench.open(0, row, LIST, 0);
            bench.open(1, row, VIEW, 4);
            bench.open(2, row, FORTH, 0);
            bench.next(0);
            Check.due("turn", bench.turn(row), 4);
            Check.due("turned", Shown.row(bench, row), "[4, 3, 2, 1]");
            Check.due("no cursor is gone", Shown.standing(bench), "0 1 2");
            Check.due("FORTH sees it", bench.next(2), 4);
            Check.due("VIEW sees it", bench.previous(1), 1);
            Check.due("the place that was told has another number", bench.replace(0, 9), 4);
            Check.due("on", bench.next(0), 3);
            bench.append(row, 7);
            Check.due("turn", bench.turn(row), 5);
            Check.due("turned", Shown.row(bench, row), "[7, 1, 2, 3, 9]");
        }
        CursorBench bench = new CursorBench();
        bench.fill(DEQUE, 1, 1, 2);
        Check.fails("turn SORTED", bench, BAD, () -> bench.turn(SORTED));
        Check.fails("turn DEQUE", bench, BAD, () -> bench.turn(DEQUE));
        for (int row : NO_ROWS) {
            Check.fails("turn, no row", bench, NO_PLACE, () -> bench.turn(row));
        }
    }

    private static void promise28() {
        for (int row = ARRAY; row <= LINKED; row++) {
            int here = row;
            CursorBench bench = new CursorBench();
            bench.open(0, row, LIST, 0);
            Check.still("twice none", bench, 0, () -> bench.twice(here));
            put(bench, row, 3, 1, 2);
            openTwo(bench, row);
            Check.due("twice", bench.twice(row), 6);
            Check.due("doubled", Shown.row(bench, row), "[3, 3, 1, 1, 2, 2]");
            Check.due("the cursors of the row are gone", Shown.standing(bench), "1");
            put(bench, row, 8);
            bench.open(0, row, VIEW, 1);
            Check.due("twice one", bench.twice(row), 2);
            Check.due("the cursors are gone for one", Shown.standing(bench), "1");
            bench.fill(row, 1, 1, 20);
            Check.due("twice 20", bench.twice(row), 40);
            Check.due("the last", bench.at(row, 38) + bench.at(row, 39), 40);
            bench.fill(row, 1, 1, 21);
            bench.open(0, row, LIST, 3);
            Check.fails("twice 21", bench, STATE, () -> bench.twice(here));
            bench.fill(row, 1, 1, 40);
            Check.fails("twice 40", bench, STATE, () -> bench.twice(here));
        }
        CursorBench bench = new CursorBench();
        bench.fill(SORTED, 1, 1, 40);
        bench.fill(DEQUE, 1, 1, 2);
        Check.fails("twice SORTED", bench, BAD, () -> bench.twice(SORTED));
        Check.fails("twice DEQUE", bench, BAD, () -> bench.twice(DEQUE));
        for (int row : NO_ROWS) {
            Check.fails("twice, no row", bench, NO_PLACE, () -> bench.twice(row));
        }
    }

    private static void promise29() {
        CursorBench bench = new CursorBench();
        put(bench, ARRAY, 1, 5, 2, 7);
        put(bench, SORTED, 1, 3, 5, 6);
        put(bench, DEQUE, 8);
        for (int slot = 0; slot < Shown.SLOTS; slot++) {
            bench.open(slot, slot % 4, FORTH, 0);
        }
        Check.due("merge", bench.merge(ARRAY, SORTED, DEQUE), 8);
        Check.due("merged", Shown.row(bench, DEQUE), "[1, 1, 3, 5, 2, 5, 6, 7]");
        Check.due("the cursors of the third row are gone", Shown.standing(bench), "0 1 2 4");
        Check.due("the first row stays", Shown.row(bench, ARRAY), "[1, 5, 2, 7]");
        Check.due("the second row stays", Shown.row(bench, SORTED), "[1, 3, 5, 6]");
        put(bench, LINKED, 3, 3);
        Check.due("merge with itself", bench.merge(ARRAY, ARRAY, LINKED), 8);
        Check.due("merged", Shown.row(bench, LINKED), "[1, 1, 5, 2, 5, 2, 7, 7]");
        put(bench, DEQUE, 9, 1);
        put(bench, SORTED, 4, 10);
        Check.due("merge", bench.merge(DEQUE, SORTED, ARRAY), 4);
        Check.due("one has none left", Shown.row(bench, ARRAY), "[4, 9, 1, 10]");
        Check.due("merge", bench.merge(SORTED, DEQUE, ARRAY), 4);
        Check.due("the other way round", Shown.row(bench, ARRAY), "[4, 9, 1, 10]");
        bench.fill(SORTED, 1, 1, 20);
        Check.due("40 come", bench.merge(SORTED, SORTED, LINKED), 40);
        bench.clear(SORTED);
        Check.due("some and none", bench.merge(DEQUE, SORTED, ARRAY), 2);
        Check.due("merged", Shown.row(bench, ARRAY), "[9, 1]");
        bench.clear(DEQUE);
        bench.open(0, LINKED, VIEW, 0);
        Check.due("none and none", bench.merge(DEQUE, SORTED, LINKED), 0);
        Check.due("all that it had is gone", Shown.row(bench, LINKED), "[]");
        bench.open(0, LINKED, VIEW, 0);
        bench.merge(DEQUE, SORTED, LINKED);
        Check.due("the cursors are gone though nothing changes", bench.isOpen(0), false);
    }

    private static void promise29Refused() {
        CursorBench bench = new CursorBench();
        bench.fill(ARRAY, 1, 1, 20);
        bench.fill(LINKED, 1, 1, 21);
        bench.fill(DEQUE, 1, 1, 2);
        bench.open(0, DEQUE, BACK, 0);
        Check.fails("41", bench, STATE, () -> bench.merge(ARRAY, LINKED, DEQUE));
        Check.fails("42", bench, STATE, () -> bench.merge(LINKED, LINKED, DEQUE));
        Check.fails("to SORTED", bench, BAD, () -> bench.merge(ARRAY, LINKED, SORTED));
        Check.fails("to the first", bench, BAD, () -> bench.merge(LINKED, ARRAY, LINKED));
        Check.fails("to the second", bench, BAD, () -> bench.merge(ARRAY, LINKED, LINKED));
        Check.fails("to both", bench, BAD, () -> bench.merge(DEQUE, DEQUE, DEQUE));
        for (int row : NO_ROWS) {
            CursorBench other = new CursorBench();
            Check.fails("merge, no row", other, NO_PLACE, () -> other.merge(row, LINKED, LINKED));
            Check.fails("merge, no other", other, NO_PLACE, () -> other.merge(LINKED, row, SORTED));
            Check.fails("merge, no third", other, NO_PLACE, () -> other.merge(LINKED, LINKED, row));
        }
    }

    private static void promise37() {
        for (int many = 0; many <= 40; many += 20) {
            for (int row = 0; row < Shown.ROWS; row++) {
                int here = row;
                CursorBench bench = new CursorBench();
                bench.fill(row, -50, 3, many);
                for (int slot = 0; slot < Shown.SLOTS; slot++) {
                    bench.open(slot, row, FORTH, 0);
                    bench.next(slot);
                }
                Check.still("errors", bench, 0, () -> bench.errors(here));
                Check.due("what was told stays told", bench.remove(2), many == 0 ? NO_STATE : many - 1);
            }
        }
        CursorBench bench = new CursorBench();
        put(bench, LINKED, 4, 4, 1, 4);
        Check.still("errors with the same numbers", bench, 0, () -> bench.errors(LINKED));
        Check.due("errors fills no slot", bench.openShare() < 0.9f, true);
        for (int row : NO_ROWS) {
            Check.fails("errors, no row", bench, NO_PLACE, () -> bench.errors(row));
        }
    }

    private static void promise38() {
        for (int row = 0; row < Shown.ROWS; row++) {
            int here = row;
            CursorBench bench = new CursorBench();
            Check.still("mean of none", bench, 0.0, () -> bench.meanValue(here));
            put(bench, row, 1, 2, 4);
            bench.open(0, row, FORTH, 0);
            Check.still("mean", bench, 7.0 / 3.0, () -> bench.meanValue(here));
            put(bench, row, -999, -998);
            Check.still("mean below 0", bench, -998.5, () -> bench.meanValue(here));
            put(bench, row, -1, 1);
            Check.still("mean 0", bench, 0.0, () -> bench.meanValue(here));
        }
        CursorBench bench = new CursorBench();
        for (int row : NO_ROWS) {
            Check.fails("meanValue, no row", bench, NO_PLACE, () -> bench.meanValue(row));
        }
    }

    private static void promise39() {
        CursorBench bench = new CursorBench();
        float[] shares = {0.0f, 0.2f, 0.4f, 0.6f, 0.8f, 1.0f};
        Check.still("no cursor", bench, shares[0], bench::openShare);
        for (int slot = 0; slot < Shown.SLOTS; slot++) {
            bench.open(slot, slot % 4, FORTH, 0);
            Check.still("cursors", bench, (float) (slot + 1) / 5.0f, bench::openShare);
        }
        bench.close(3);
        Check.due("one fewer", bench.openShare(), shares[4]);
        bench.clear(ARRAY);
        Check.due("two are gone", bench.openShare(), shares[2]);
    }
}
