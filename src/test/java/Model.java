import java.util.ArrayDeque;
import java.util.ArrayList;
import java.util.Arrays;
import java.util.Collection;
import java.util.Collections;
import java.util.Iterator;
import java.util.LinkedList;
import java.util.List;
import java.util.ListIterator;
import java.util.NoSuchElementException;
import java.util.TreeSet;

/** The document once more, upon the rows and the iterators of the Java library. */
final class Model {
    private static final int MOST = 40;

    private final ArrayList<Integer> array = new ArrayList<>();
    private final LinkedList<Integer> linked = new LinkedList<>();
    private final TreeSet<Integer> sorted = new TreeSet<>();
    private final ArrayDeque<Integer> deque = new ArrayDeque<>();
    private final List<Collection<Integer>> rows = Arrays.asList(array, linked, sorted, deque);
    private final Iterator<?>[] cursors = new Iterator<?>[5];
    private final int[] rowOf = new int[5];
    private final int[] kindOf = new int[5];
    String text = "";

    private Collection<Integer> row(int row) {
        if (row < 0 || row > 3) {
            throw new IndexOutOfBoundsException();
        }
        return rows.get(row);
    }

    private List<Integer> list(int row) {
        row(row);
        if (row > 1) {
            throw new IllegalArgumentException();
        }
        return row == 0 ? array : linked;
    }

    private List<Integer> copy(int row) {
        return new ArrayList<>(row(row));
    }

    private static void bad(boolean isBad) {
        if (isBad) {
            throw new IllegalArgumentException();
        }
    }

    private static void full(boolean isFull) {
        if (isFull) {
            throw new IllegalStateException();
        }
    }

    private static boolean isOut(int number, int least, int most) {
        return number < least || number > most;
    }

    private void lose(int row, int keeper) {
        for (int slot = 0; slot < 5; slot++) {
            if (slot != keeper && rowOf[slot] == row) {
                cursors[slot] = null;
            }
        }
    }

    private void give(int row, List<Integer> numbers) {
        row(row).clear();
        row(row).addAll(numbers);
        lose(row, -1);
    }

    boolean append(int row, int value) {
        Collection<Integer> to = row(row);
        bad(isOut(value, -999, 999));
        full(to.size() == MOST);
        boolean came = to.add(value);
        if (came) {
            lose(row, -1);
        }
        return came;
    }

    int dropFirst(int row) {
        if (row(row).isEmpty()) {
            throw new NoSuchElementException();
        }
        Iterator<Integer> cursor = row(row).iterator();
        int first = cursor.next();
        cursor.remove();
        lose(row, -1);
        return first;
    }

    int fill(int row, int first, int step, int many) {
        row(row);
        bad(isOut(first, -999, 999) || isOut(step, -20, 20) || isOut(many, 0, 40));
        List<Integer> numbers = new ArrayList<>();
        for (int number = first; numbers.size() < many; number += step) {
            bad(isOut(number, -999, 999));
            numbers.add(number);
        }
        give(row, numbers);
        return row(row).size();
    }

    int clear(int row) {
        int before = row(row).size();
        give(row, new ArrayList<>());
        return before;
    }

    int size(int row) {
        return row(row).size();
    }

    int at(int row, int place) {
        List<Integer> numbers = copy(row);
        if (isOut(place, 0, numbers.size() - 1)) {
            throw new IndexOutOfBoundsException();
        }
        return numbers.get(place);
    }

    private static int digestOf(Iterable<?> numbers) {
        int digest = 7;
        for (Object number : numbers) {
            digest = digest * 31 + (Integer) number;
        }
        return digest;
    }

    int digest(int row) {
        return digestOf(row(row));
    }

    boolean isSame(int row, int other) {
        return copy(row).equals(copy(other));
    }

    int open(int slot, int row, int kind, int place) {
        if (isOut(slot, 0, 4) || isOut(place, 0, row(row).size())) {
            throw new IndexOutOfBoundsException();
        }
        cursors[slot] = newCursor(row, kind, place);
        rowOf[slot] = row;
        kindOf[slot] = kind;
        return row(row).size() - place;
    }

    private Iterator<Integer> newCursor(int row, int kind, int place) {
        if (kind == CursorBench.LIST) {
            return list(row).listIterator(place);
        }
        if (kind == CursorBench.VIEW) {
            return Collections.unmodifiableList(list(row)).listIterator(place);
        }
        bad(place != 0 || isOut(kind, 2, 3));
        if (kind == CursorBench.FORTH) {
            return row(row).iterator();
        }
        bad(row == 0 || row == 2);
        return row == 1 ? linked.descendingIterator() : deque.descendingIterator();
    }

    boolean isOpen(int slot) {
        if (isOut(slot, 0, 4)) {
            throw new IndexOutOfBoundsException();
        }
        return cursors[slot] != null;
    }

    boolean close(int slot) {
        boolean was = isOpen(slot);
        cursors[slot] = null;
        return was;
    }

    @SuppressWarnings("unchecked")
    private Iterator<Integer> cursor(int slot) {
        full(!isOpen(slot));
        return (Iterator<Integer>) cursors[slot];
    }

    /** The cursor as one that goes back too, or null. */
    private ListIterator<Integer> both(int slot) {
        Iterator<Integer> cursor = cursor(slot);
        return kindOf[slot] <= CursorBench.VIEW ? (ListIterator<Integer>) cursor : null;
    }

    int rowOf(int slot) {
        cursor(slot);
        return rowOf[slot];
    }

    int kindOf(int slot) {
        cursor(slot);
        return kindOf[slot];
    }

    boolean hasNext(int slot) {
        return cursor(slot).hasNext();
    }

    int next(int slot) {
        return cursor(slot).hasNext() ? cursor(slot).next() : CursorBench.NO_ELEMENT;
    }

    int hasPrevious(int slot) {
        return both(slot) == null ? CursorBench.UNSUPPORTED : both(slot).hasPrevious() ? 1 : 0;
    }

    int previous(int slot) {
        if (both(slot) == null) {
            return CursorBench.UNSUPPORTED;
        }
        return both(slot).hasPrevious() ? both(slot).previous() : CursorBench.NO_ELEMENT;
    }

    int nextPlace(int slot) {
        return both(slot) == null ? CursorBench.UNSUPPORTED : both(slot).nextIndex();
    }

    int previousPlace(int slot) {
        return both(slot) == null ? CursorBench.UNSUPPORTED : both(slot).previousIndex();
    }

    int remove(int slot) {
        Iterator<Integer> cursor = cursor(slot);
        try {
            cursor.remove();
        } catch (UnsupportedOperationException refused) {
            return CursorBench.UNSUPPORTED;
        } catch (IllegalStateException refused) {
            return CursorBench.NO_STATE;
        }
        lose(rowOf[slot], slot);
        return row(rowOf[slot]).size();
    }

    int replace(int slot, int value) {
        isOpen(slot);
        bad(isOut(value, -999, 999));
        ListIterator<Integer> cursor = both(slot);
        if (cursor == null) {
            return CursorBench.UNSUPPORTED;
        }
        List<Integer> before = copy(rowOf[slot]);
        try {
            cursor.set(value);
        } catch (UnsupportedOperationException refused) {
            return CursorBench.UNSUPPORTED;
        } catch (IllegalStateException refused) {
            return CursorBench.NO_STATE;
        }
        List<Integer> after = copy(rowOf[slot]);
        for (int place = 0; place < before.size(); place++) {
            if (!before.get(place).equals(after.get(place))) {
                return before.get(place);
            }
        }
        return value;
    }

    int insert(int slot, int value) {
        isOpen(slot);
        bad(isOut(value, -999, 999));
        cursor(slot);
        full(kindOf[slot] == CursorBench.LIST && row(rowOf[slot]).size() == MOST);
        if (kindOf[slot] != CursorBench.LIST) {
            return CursorBench.UNSUPPORTED;
        }
        both(slot).add(value);
        lose(rowOf[slot], slot);
        return row(rowOf[slot]).size();
    }

    int rest(int slot) {
        List<Object> left = new ArrayList<>();
        cursor(slot).forEachRemaining(left::add);
        cursors[slot] = null;
        return digestOf(left);
    }

    int sieve(int row, int modulus, int rest) {
        row(row);
        bad(isOut(modulus, 1, 100) || isOut(rest, 0, 99));
        int before = row(row).size();
        if (row(row).removeIf(number -> ((number % modulus) + modulus) % modulus == rest)) {
            lose(row, -1);
        }
        return before - row(row).size();
    }

    int unlike(int row) {
        List<Integer> before = copy(row);
        List<Integer> left = new ArrayList<>();
        for (Integer number : before) {
            if (left.isEmpty() || !left.get(left.size() - 1).equals(number)) {
                left.add(number);
            }
        }
        if (left.size() < before.size()) {
            give(row, left);
        }
        return before.size() - left.size();
    }

    int turn(int row) {
        List<Integer> numbers = list(row);
        List<Integer> turned = new ArrayList<>(numbers);
        Collections.reverse(turned);
        for (int place = 0; place < turned.size(); place++) {
            numbers.set(place, turned.get(place));
        }
        return turned.size();
    }

    int twice(int row) {
        List<Integer> doubled = new ArrayList<>();
        for (Integer number : list(row)) {
            doubled.add(number);
            doubled.add(number);
        }
        full(doubled.size() > MOST);
        if (!doubled.isEmpty()) {
            give(row, doubled);
        }
        return doubled.size();
    }

    int merge(int row, int other, int to) {
        LinkedList<Integer> one = new LinkedList<>(row(row));
        LinkedList<Integer> two = new LinkedList<>(row(other));
        row(to);
        bad(to == 2 || to == row || to == other);
        full(one.size() + two.size() > MOST);
        List<Integer> merged = new ArrayList<>();
        while (!one.isEmpty() && !two.isEmpty()) {
            merged.add(two.getFirst() < one.getFirst() ? two.removeFirst() : one.removeFirst());
        }
        merged.addAll(one);
        merged.addAll(two);
        give(to, merged);
        return merged.size();
    }

    int type(long bytes) {
        StringBuilder more = new StringBuilder(text);
        for (byte one : java.nio.ByteBuffer.allocate(8).putLong(bytes).array()) {
            if (one != 0) {
                more.append((char) (one & 255));
            }
        }
        full(more.length() > 100);
        text = more.toString();
        return text.length();
    }

    int textLength() {
        return text.length();
    }

    int clearText() {
        int before = text.length();
        text = "";
        return before;
    }

    int example(int which) {
        bad(isOut(which, 0, 2));
        String[] texts = {"10( n n r a -5 p p s 7 n n )", "3(n a1 a2 p r)4(p)20(n)",
            "2( 3( n ) 2( p ) s 99 ) r 20( n r )"};
        text = texts[which];
        return text.length();
    }

    int errorKind() {
        return new ModelProgram(text).errorKind;
    }

    int errorPlace() {
        return new ModelProgram(text).errorPlace;
    }

    int play(int slot) {
        cursor(slot);
        ModelProgram program = new ModelProgram(text);
        full(program.errorKind != 0);
        int made = 0;
        for (String move : program.moves(300)) {
            if (!isMade(slot, move)) {
                break;
            }
            made++;
        }
        return made;
    }

    private boolean isMade(int slot, String move) {
        switch (move.charAt(0)) {
            case 'n': return next(slot) >= -999;
            case 'p': return previous(slot) >= -999;
            case 'r': return remove(slot) >= 0;
            case 's': return replace(slot, Integer.parseInt(move.substring(1))) >= -999;
            default: break;
        }
        try {
            return insert(slot, Integer.parseInt(move.substring(1))) >= 0;
        } catch (IllegalStateException isFull) {
            return false;
        }
    }

    int errors(int row) {
        row(row);
        return 0;
    }

    double meanValue(int row) {
        int sum = 0;
        for (Integer number : row(row)) {
            sum += number;
        }
        return row(row).isEmpty() ? 0.0 : (double) sum / (double) row(row).size();
    }

    float openShare() {
        int open = 0;
        for (Iterator<?> cursor : cursors) {
            open += cursor == null ? 0 : 1;
        }
        return (float) open / 5.0f;
    }
}
