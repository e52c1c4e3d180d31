/** What can be seen of a bench without changing it. */
final class Shown {
    static final int ROWS = 4;
    static final int SLOTS = 5;

    private Shown() {
    }

    static String all(CursorBench bench) {
        StringBuilder shown = new StringBuilder();
        for (int row = 0; row < ROWS; row++) {
            shown.append(row(bench, row)).append(' ');
        }
        return shown.append(slotsAndText(bench)).toString();
    }

    /** The same in fewer calls, with a digest of each row in place of its numbers. */
    static String brief(CursorBench bench) {
        StringBuilder shown = new StringBuilder();
        for (int row = 0; row < ROWS; row++) {
            shown.append(bench.size(row)).append(':').append(bench.digest(row)).append(' ');
        }
        return shown.append(slotsAndText(bench)).toString();
    }

    private static String slotsAndText(CursorBench bench) {
        StringBuilder shown = new StringBuilder();
        for (int slot = 0; slot < SLOTS; slot++) {
            shown.append(slot(bench, slot)).append(' ');
        }
        shown.append(bench.textLength()).append('/').append(bench.errorKind()).append('/').append(bench.errorPlace());
        return shown.toString();
    }

    /** The numbers of a row, such as "[1, -5]". */
    static String row(CursorBench bench, int row) {
        int size = bench.size(row);
        StringBuilder shown = new StringBuilder("[");
        for (int place = 0; place < size; place++) {
            shown.append(place == 0 ? "" : ", ").append(bench.at(row, place));
        }
        return shown.append(']').toString();
    }

    private static String slot(CursorBench bench, int slot) {
        if (!bench.isOpen(slot)) {
            return "empty";
        }
        return bench.rowOf(slot) + "," + bench.kindOf(slot) + "," + bench.nextPlace(slot) + "," + bench.hasNext(slot);
    }

    /** Which slots have a cursor, such as "0 3". */
    static String standing(CursorBench bench) {
        StringBuilder shown = new StringBuilder();
        for (int slot = 0; slot < SLOTS; slot++) {
            if (bench.isOpen(slot)) {
                shown.append(shown.length() == 0 ? "" : " ").append(slot);
            }
        }
        return shown.toString();
    }
}
