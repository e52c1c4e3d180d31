import java.util.NoSuchElementException;

/** What the tests name again and again: the program's constants, its exceptions, and what does not exist. */
class Names {
    static final int ARRAY = CursorBench.ARRAY;
    static final int LINKED = CursorBench.LINKED;
    static final int SORTED = CursorBench.SORTED;
    static final int DEQUE = CursorBench.DEQUE;
    static final int LIST = CursorBench.LIST;
    static final int VIEW = CursorBench.VIEW;
    static final int FORTH = CursorBench.FORTH;
    static final int BACK = CursorBench.BACK;
    static final int NONE = CursorBench.NONE;
    static final int NO_ELEMENT = CursorBench.NO_ELEMENT;
    static final int NO_STATE = CursorBench.NO_STATE;
    static final int UNSUPPORTED = CursorBench.UNSUPPORTED;

    static final Class<IndexOutOfBoundsException> NO_PLACE = IndexOutOfBoundsException.class;
    static final Class<IllegalArgumentException> BAD = IllegalArgumentException.class;
    static final Class<IllegalStateException> STATE = IllegalStateException.class;
    static final Class<NoSuchElementException> EMPTY = NoSuchElementException.class;

    static final int[] ROWS = {ARRAY, LINKED, SORTED, DEQUE};
    /** The rows that have cursors of the kinds LIST and VIEW. */
    static final int[] LISTS = {ARRAY, LINKED};
    static final int[] SLOTS = {0, 1, 2, 3, 4};
    static final int[] NO_ROWS = {-1, 4, Integer.MIN_VALUE, Integer.MAX_VALUE};
    static final int[] NO_SLOTS = {-1, 5, Integer.MIN_VALUE, Integer.MAX_VALUE};
    static final int[] NO_VALUES = {-1000, 1000, Integer.MIN_VALUE, Integer.MAX_VALUE};
    /** Each row with each kind of cursor that it has. */
    static final int[][] KINDS = {{ARRAY, LIST}, {ARRAY, VIEW}, {ARRAY, FORTH}, {LINKED, LIST}, {LINKED, VIEW},
        {LINKED, FORTH}, {LINKED, BACK}, {SORTED, FORTH}, {DEQUE, FORTH}, {DEQUE, BACK}};

    static boolean isKind(int row, int kind) {
        for (int[] one : KINDS) {
            if (one[0] == row && one[1] == kind) {
                return true;
            }
        }
        return false;
    }
}
