/** Promises 1 to 9: a new bench, and the rows without cursors of one's own. */
public final class RowsTest extends Names {
    public static void main(String[] args) {
        promise1();
        promise2();
        promise2Refused();
        promise3();
        promise4();
        promise4Refused();
        promise5();
        promise6And7();
        promise8();
        promise9();
        Check.end("RowsTest");
    }

    private static void promise1() {
        CursorBench bench = new CursorBench();
        Check.due("a new bench", Shown.all(bench), "[] [] [] [] empty empty empty empty empty 0/0/-1");
        new CursorBench().append(ARRAY, 1);
        Check.due("benches share nothing", Shown.row(bench, ARRAY), "[]");
    }

    private static void promise2() {
        for (int row = 0; row < Shown.ROWS; row++) {
            CursorBench bench = new CursorBench();
            boolean sorted = row == SORTED;
            Check.due("append", bench.append(row, 3), true);
            Check.due("append", bench.append(row, -999), true);
            Check.due("append the same", bench.append(row, 3), !sorted);
            Check.due("append", bench.append(row, 999), true);
            Check.due("append", bench.append(row, 0), true);
            Check.due("order", Shown.row(bench, row), sorted ? "[-999, 0, 3, 999]" : "[3, -999, 3, 999, 0]");
            bench.open(0, row, FORTH, 0);
            bench.open(1, 1 - row % 2, FORTH, 0);
            bench.append(row, 7);
            Check.due("append loses the cursors of its row alone", Shown.standing(bench), "1");
        }
        CursorBench bench = new CursorBench();
        bench.append(SORTED, 5);
        bench.open(0, SORTED, FORTH, 0);
        Check.still("append what is there", bench, false, () -> bench.append(SORTED, 5));
    }

    private static void promise2Refused() {
        for (int row = 0; row < Shown.ROWS; row++) {
            int here = row;
            CursorBench bench = new CursorBench();
            bench.fill(row, 1, 1, 39);
            Check.due("the 40th number", bench.append(row, 40), true);
            bench.open(0, row, FORTH, 0);
            Check.fails("append to 40", bench, STATE, () -> bench.append(here, 100));
            Check.fails("append what is there to 40", bench, STATE, () -> bench.append(here, 5));
            Check.fails("append above", bench, BAD, () -> bench.append(here, 1000));
            Check.fails("append below", bench, BAD, () -> bench.append(here, -1000));
            Check.fails("append least", bench, BAD, () -> bench.append(here, Integer.MIN_VALUE));
        }
        CursorBench bench = new CursorBench();
        for (int row : NO_ROWS) {
            Check.fails("append, no row", bench, NO_PLACE, () -> bench.append(row, 1000));
        }
    }

    private static void promise3() {
        for (int row = 0; row < Shown.ROWS; row++) {
            int here = row;
            CursorBench bench = new CursorBench();
            bench.fill(row, -1, 1, 3);
            bench.open(3, row, FORTH, 0);
            bench.open(4, (row + 1) % 4, FORTH, 0);
            Check.due("dropFirst", bench.dropFirst(row), -1);
            Check.due("dropFirst loses the cursors of its row", Shown.standing(bench), "4");
            Check.due("what is left", Shown.row(bench, row), "[0, 1]");
            Check.due("dropFirst", bench.dropFirst(row), 0);
            bench.append(row, 50);
            Check.due("what is left", Shown.row(bench, row), "[1, 50]");
            Check.due("dropFirst", bench.dropFirst(row), 1);
            Check.due("dropFirst", bench.dropFirst(row), 50);
            bench.open(0, row, FORTH, 0);
            Check.fails("dropFirst of none", bench, EMPTY, () -> bench.dropFirst(here));
        }
        CursorBench bench = new CursorBench();
        for (int row : NO_ROWS) {
            Check.fails("dropFirst, no row", bench, NO_PLACE, () -> bench.dropFirst(row));
        }
        bench.fill(DEQUE, 1, 1, 40);
        for (int turn = 1; turn <= 100; turn++) {
            Check.due("the deque goes round", bench.dropFirst(DEQUE), turn);
            bench.append(DEQUE, turn + 40);
        }
    }

    private static void promise4() {
        for (int row = 0; row < Shown.ROWS; row++) {
            CursorBench bench = new CursorBench();
            boolean sorted = row == SORTED;
            Check.due("fill", bench.fill(row, 999, -20, 3), 3);
            Check.due("falling", Shown.row(bench, row), sorted ? "[959, 979, 999]" : "[999, 979, 959]");
            Check.due("fill", bench.fill(row, -999, 20, 2), 2);
            Check.due("rising", Shown.row(bench, row), "[-999, -979]");
            Check.due("fill with the same", bench.fill(row, 4, 0, 40), sorted ? 1 : 40);
            Check.due("fill up", bench.fill(row, -390, 20, 40), 40);
            Check.due("the last one", bench.at(row, 39), 390);
            Check.due("fill to the edge", bench.fill(row, 219, 20, 40), 40);
            Check.due("the edge", bench.at(row, 39), 999);
            bench.open(0, row, FORTH, 0);
            bench.open(1, 3 - row, FORTH, 0);
            Check.due("fill with none", bench.fill(row, 999, 20, 0), 0);
            Check.due("fill loses the cursors of its row", Shown.standing(bench), "1");
            bench.open(0, row, FORTH, 0);
            bench.fill(row, 0, 0, 0);
            Check.due("fill with none again loses them too", bench.isOpen(0), false);
        }
    }

    private static void promise4Refused() {
        for (int row = 0; row < Shown.ROWS; row++) {
            int here = row;
            CursorBench bench = new CursorBench();
            bench.fill(row, 1, 1, 2);
            bench.open(0, row, FORTH, 0);
            Check.fails("first above", bench, BAD, () -> bench.fill(here, 1000, 0, 0));
            Check.fails("first below", bench, BAD, () -> bench.fill(here, -1000, 1, 5));
            Check.fails("step above", bench, BAD, () -> bench.fill(here, 0, 21, 0));
            Check.fails("step below", bench, BAD, () -> bench.fill(here, 0, -21, 1));
            Check.fails("many above", bench, BAD, () -> bench.fill(here, 0, 0, 41));
            Check.fails("many below", bench, BAD, () -> bench.fill(here, 0, 0, -1));
            Check.fails("many least", bench, BAD, () -> bench.fill(here, 0, 20, Integer.MIN_VALUE));
            Check.fails("a number above", bench, BAD, () -> bench.fill(here, 220, 20, 40));
            Check.fails("a number below", bench, BAD, () -> bench.fill(here, -999, -1, 2));
        }
        CursorBench bench = new CursorBench();
        for (int row : NO_ROWS) {
            Check.fails("fill, no row", bench, NO_PLACE, () -> bench.fill(row, 1000, 21, 41));
        }
    }

    private static void promise5() {
        for (int row = 0; row < Shown.ROWS; row++) {
            CursorBench bench = new CursorBench();
            bench.fill(row, 1, 1, 40);
            bench.fill(3 - row, 1, 1, 2);
            bench.open(0, row, FORTH, 0);
            bench.open(1, 3 - row, FORTH, 0);
            Check.due("clear", bench.clear(row), 40);
            Check.due("cleared", bench.size(row), 0);
            Check.due("clear clears one row", bench.size(3 - row), 2);
            Check.due("clear loses the cursors of its row", Shown.standing(bench), "1");
            bench.open(0, row, FORTH, 0);
            Check.due("clear none", bench.clear(row), 0);
            Check.due("clear none loses them too", Shown.standing(bench), "1");
            Check.due("fill behind clear", bench.fill(row, 1, 1, 40), 40);
        }
        CursorBench bench = new CursorBench();
        for (int row : NO_ROWS) {
            Check.fails("clear, no row", bench, NO_PLACE, () -> bench.clear(row));
        }
    }

    private static void promise6And7() {
        for (int row = 0; row < Shown.ROWS; row++) {
            int here = row;
            CursorBench bench = new CursorBench();
            bench.open(0, row, FORTH, 0);
            Check.still("size", bench, 0, () -> bench.size(here));
            Check.fails("at of none", bench, NO_PLACE, () -> bench.at(here, 0));
            bench.fill(row, 100, 2, 40);
            bench.open(0, row, FORTH, 0);
            Check.still("size", bench, 40, () -> bench.size(here));
            Check.still("at the first", bench, 100, () -> bench.at(here, 0));
            Check.still("at", bench, 134, () -> bench.at(here, 17));
            Check.still("at the last", bench, 178, () -> bench.at(here, 39));
            Check.fails("at behind", bench, NO_PLACE, () -> bench.at(here, 40));
            Check.fails("at before", bench, NO_PLACE, () -> bench.at(here, -1));
            Check.fails("at least", bench, NO_PLACE, () -> bench.at(here, Integer.MIN_VALUE));
            Check.fails("at most", bench, NO_PLACE, () -> bench.at(here, Integer.MAX_VALUE));
        }
        CursorBench bench = new CursorBench();
        for (int row : NO_ROWS) {
            Check.fails("size, no row", bench, NO_PLACE, () -> bench.size(row));
            Check.fails("at, no row", bench, NO_PLACE, () -> bench.at(row, 0));
        }
    }

    private static void promise8() {
        for (int row = 0; row < Shown.ROWS; row++) {
            int here = row;
            CursorBench bench = new CursorBench();
            Check.still("digest of none", bench, 7, () -> bench.digest(here));
            bench.append(row, -5);
            Check.still("digest of one", bench, 7 * 31 - 5, () -> bench.digest(here));
            bench.append(row, 3);
            Check.still("digest of two", bench, (7 * 31 - 5) * 31 + 3, () -> bench.digest(here));
            bench.fill(row, 500, 1, 40);
            long due = 7;
            for (int number = 500; number < 540; number++) {
                due = (due * 31 + number) % (1L << 32);
            }
            int wrapped = (int) due;
            Check.still("digest wraps round", bench, wrapped, () -> bench.digest(here));
        }
        CursorBench bench = new CursorBench();
        for (int row : NO_ROWS) {
            Check.fails("digest, no row", bench, NO_PLACE, () -> bench.digest(row));
        }
    }

    private static void promise9() {
        for (int row = 0; row < Shown.ROWS; row++) {
            for (int other = 0; other < Shown.ROWS; other++) {
                int one = row;
                int two = other;
                CursorBench bench = new CursorBench();
                Check.still("none and none", bench, true, () -> bench.isSame(one, two));
                bench.fill(row, 1, 1, 40);
                Check.still("some and none", bench, row == other, () -> bench.isSame(one, two));
                Check.still("none and some", bench, row == other, () -> bench.isSame(two, one));
                bench.fill(other, 1, 1, 40);
                Check.still("the same", bench, true, () -> bench.isSame(one, two));
                bench.fill(other, 1, 1, 39);
                Check.still("one fewer", bench, row == other, () -> bench.isSame(one, two));
                bench.append(other, 41);
                Check.still("the last one differs", bench, row == other, () -> bench.isSame(one, two));
            }
        }
        CursorBench bench = new CursorBench();
        bench.fill(ARRAY, 1, 1, 3);
        bench.fill(LINKED, 3, -1, 3);
        bench.fill(DEQUE, 0, 2, 2);
        bench.fill(SORTED, 1, 1, 2);
        Check.due("the first one alone differs", bench.isSame(DEQUE, SORTED), false);
        Check.due("another order", bench.isSame(ARRAY, LINKED), false);
        for (int row : NO_ROWS) {
            Check.fails("isSame, no row", bench, NO_PLACE, () -> bench.isSame(row, 0));
            Check.fails("isSame, no other row", bench, NO_PLACE, () -> bench.isSame(0, row));
        }
    }
}
