import java.util.NoSuchElementException;

/** Four rows of numbers, cursors that go through them, and programs of moves for these cursors. */
public final class CursorBench {
    public static final int NONE = -1;
    public static final int ARRAY = 0, LINKED = 1, SORTED = 2, DEQUE = 3;
    public static final int LIST = 0, VIEW = 1, FORTH = 2, BACK = 3;
    public static final int NO_ELEMENT = -10001, NO_STATE = -10002, UNSUPPORTED = -10003;

    private static final int MOST_NUMBERS = 40;
    private static final int MOST_VALUE = 999;
    private static final int MOST_STEP = 20;
    private static final int MOST_MODULUS = 100;
    private static final int MOST_REST = 99;
    private static final int MOST_BYTES = 100;
    private static final int MOST_TIMES = 20;
    private static final int MOST_OPEN = 3;
    private static final int MOST_MOVES = 300;
    private static final int SLOTS = 5;
    private static final int FIRST_DIGEST = 7;
    private static final int FORBIDDEN_BYTE = 1;
    private static final int OUT_OF_RANGE = 2;
    private static final String EXAMPLE_0 = "10( n n r a -5 p p s 7 n n )";
    private static final String EXAMPLE_1 = "3(n a1 a2 p r)4(p)20(n)";
    private static final String EXAMPLE_2 = "2( 3( n ) 2( p ) s 99 ) r 20( n r )";

    private final Row[] rows;
    private final Cursor[] cursors;
    // The cursor of errors(), which stands in no slot.
    private final Cursor walker;
    private final Program program;

    public CursorBench() {
        rows = new Row[] {new ArrayRow(), new LinkedRow(), new SortedRow(), new DequeRow()};
        cursors = new Cursor[SLOTS];
        for (int slot = 0; slot < cursors.length; slot++) {
            cursors[slot] = new Cursor();
        }
        walker = new Cursor();
        program = new Program();
    }

    // Rows

    public boolean append(int row, int value)
            throws IndexOutOfBoundsException, IllegalArgumentException, IllegalStateException {
        Row target = rowAt(row);
        checkValue(value);
        if (target.count >= MOST_NUMBERS) {
            throw new IllegalStateException("the row is full");
        }
        if (!target.join(value)) {
            return false;
        }
        loseCursors(target, null);
        return true;
    }

    public int dropFirst(int row) throws IndexOutOfBoundsException, NoSuchElementException {
        Row source = rowAt(row);
        if (source.count == 0) {
            throw new NoSuchElementException("the row is empty");
        }
        int first = source.numberAt(0);
        source.takeOut(0);
        loseCursors(source, null);
        return first;
    }

    public int fill(int row, int first, int step, int many)
            throws IndexOutOfBoundsException, IllegalArgumentException {
        Row target = rowAt(row);
        checkValue(first);
        if (step < -MOST_STEP || step > MOST_STEP || many < 0 || many > MOST_NUMBERS) {
            throw new IllegalArgumentException("step or many is out of range");
        }
        if (many > 0) {
            checkValue(first + step * (many - 1));
        }
        target.wipe();
        for (int index = 0; index < many; index++) {
            target.join(first + step * index);
        }
        loseCursors(target, null);
        return target.count;
    }

    public int clear(int row) throws IndexOutOfBoundsException {
        Row target = rowAt(row);
        int before = target.count;
        target.wipe();
        loseCursors(target, null);
        return before;
    }

    public int size(int row) throws IndexOutOfBoundsException {
        return rowAt(row).count;
    }

    public int at(int row, int place) throws IndexOutOfBoundsException {
        Row source = rowAt(row);
        if (!source.hasPlace(place)) {
            throw new IndexOutOfBoundsException("no such place");
        }
        return source.numberAt(place);
    }

    public int digest(int row) throws IndexOutOfBoundsException {
        Row source = rowAt(row);
        int digest = FIRST_DIGEST;
        for (int place = 0; place < source.count; place++) {
            digest = digestWith(digest, source.numberAt(place));
        }
        return digest;
    }

    public boolean isSame(int row, int other) throws IndexOutOfBoundsException {
        Row one = rowAt(row);
        Row two = rowAt(other);
        if (one.count != two.count) {
            return false;
        }
        for (int place = 0; place < one.count; place++) {
            if (one.numberAt(place) != two.numberAt(place)) {
                return false;
            }
        }
        return true;
    }

    // Cursors

    public int open(int slot, int row, int kind, int place)
            throws IndexOutOfBoundsException, IllegalArgumentException {
        Cursor cursor = cursorAt(slot);
        Row target = rowAt(row);
        if (place < 0 || place > target.count) {
            throw new IndexOutOfBoundsException("no such place");
        }
        if (!isKindFor(row, kind)) {
            throw new IllegalArgumentException("no such kind for this row");
        }
        if ((kind == FORTH || kind == BACK) && place != 0) {
            throw new IllegalArgumentException("this kind begins in front of all numbers");
        }
        cursor.enter(target, row, kind, place);
        return cursor.behind();
    }

    public boolean close(int slot) throws IndexOutOfBoundsException {
        Cursor cursor = cursorAt(slot);
        boolean stood = cursor.isStanding();
        cursor.leave();
        return stood;
    }

    public boolean isOpen(int slot) throws IndexOutOfBoundsException {
        return cursorAt(slot).isStanding();
    }

    public int rowOf(int slot) throws IndexOutOfBoundsException, IllegalStateException {
        return standingAt(slot).rowNumber;
    }

    public int kindOf(int slot) throws IndexOutOfBoundsException, IllegalStateException {
        return standingAt(slot).kind;
    }

    public boolean hasNext(int slot) throws IndexOutOfBoundsException, IllegalStateException {
        return standingAt(slot).behind() > 0;
    }

    public int next(int slot) throws IndexOutOfBoundsException, IllegalStateException {
        return standingAt(slot).goOn();
    }

    public int hasPrevious(int slot) throws IndexOutOfBoundsException, IllegalStateException {
        Cursor cursor = standingAt(slot);
        if (!cursor.goesBothWays()) {
            return UNSUPPORTED;
        }
        return cursor.place > 0 ? 1 : 0;
    }

    public int previous(int slot) throws IndexOutOfBoundsException, IllegalStateException {
        return standingAt(slot).goBack();
    }

    public int nextPlace(int slot) throws IndexOutOfBoundsException, IllegalStateException {
        Cursor cursor = standingAt(slot);
        return cursor.goesBothWays() ? cursor.place : UNSUPPORTED;
    }

    public int previousPlace(int slot) throws IndexOutOfBoundsException, IllegalStateException {
        Cursor cursor = standingAt(slot);
        return cursor.goesBothWays() ? cursor.place - 1 : UNSUPPORTED;
    }

    public int remove(int slot) throws IndexOutOfBoundsException, IllegalStateException {
        return removeBy(standingAt(slot));
    }

    public int replace(int slot, int value)
            throws IndexOutOfBoundsException, IllegalArgumentException, IllegalStateException {
        cursorAt(slot);
        checkValue(value);
        return standingAt(slot).replaceTold(value);
    }

    public int insert(int slot, int value)
            throws IndexOutOfBoundsException, IllegalArgumentException, IllegalStateException {
        cursorAt(slot);
        checkValue(value);
        Cursor cursor = standingAt(slot);
        if (cursor.hasNoRoom()) {
            throw new IllegalStateException("the row is full");
        }
        return insertBy(cursor, value);
    }

    public int rest(int slot) throws IndexOutOfBoundsException, IllegalStateException {
        Cursor cursor = standingAt(slot);
        int left = cursor.behind();
        int digest = FIRST_DIGEST;
        for (int went = 0; went < left; went++) {
            digest = digestWith(digest, cursor.goOn());
        }
        cursor.leave();
        return digest;
    }

    // Whole rows

    public int sieve(int row, int modulus, int rest) throws IndexOutOfBoundsException, IllegalArgumentException {
        Row target = rowAt(row);
        if (modulus < 1 || modulus > MOST_MODULUS || rest < 0 || rest > MOST_REST) {
            throw new IllegalArgumentException("modulus or rest is out of range");
        }
        int before = target.count;
        for (int place = before - 1; place >= 0; place--) {
            if (Math.floorMod(target.numberAt(place), modulus) == rest) {
                target.takeOut(place);
            }
        }
        return loseCursorsIfFewer(target, before);
    }

    public int unlike(int row) throws IndexOutOfBoundsException {
        Row target = rowAt(row);
        int before = target.count;
        // From the back, so that each number is held against the one that was in front of it at first.
        for (int place = before - 1; place > 0; place--) {
            if (target.numberAt(place) == target.numberAt(place - 1)) {
                target.takeOut(place);
            }
        }
        return loseCursorsIfFewer(target, before);
    }

    public int turn(int row) throws IndexOutOfBoundsException, IllegalArgumentException {
        ListRow list = listAt(row);
        int last = list.count - 1;
        for (int place = 0; place < last - place; place++) {
            int front = list.numberAt(place);
            list.setNumber(place, list.numberAt(last - place));
            list.setNumber(last - place, front);
        }
        return list.count;
    }

    public int twice(int row) throws IndexOutOfBoundsException, IllegalArgumentException, IllegalStateException {
        ListRow list = listAt(row);
        int before = list.count;
        if (2 * before > MOST_NUMBERS) {
            throw new IllegalStateException("the row would have too many numbers");
        }
        for (int place = before - 1; place >= 0; place--) {
            list.putIn(place + 1, list.numberAt(place));
        }
        if (before > 0) {
            loseCursors(list, null);
        }
        return list.count;
    }

    public int merge(int row, int other, int to)
            throws IndexOutOfBoundsException, IllegalArgumentException, IllegalStateException {
        Row one = rowAt(row);
        Row two = rowAt(other);
        Row target = rowAt(to);
        if (to == SORTED || to == row || to == other) {
            throw new IllegalArgumentException("the third row can't take the numbers");
        }
        int all = one.count + two.count;
        if (all > MOST_NUMBERS) {
            throw new IllegalStateException("the row would have too many numbers");
        }
        target.wipe();
        int fromOne = 0;
        for (int came = 0; came < all; came++) {
            int fromTwo = came - fromOne;
            if (isFirstNext(one, fromOne, two, fromTwo)) {
                target.join(one.numberAt(fromOne));
                fromOne++;
            } else {
                target.join(two.numberAt(fromTwo));
            }
        }
        loseCursors(target, null);
        return target.count;
    }

    // Programs

    public int type(long bytes) throws IllegalStateException {
        int more = 0;
        for (int shift = 56; shift >= 0; shift -= 8) {
            if (byteOf(bytes, shift) != 0) {
                more++;
            }
        }
        if (program.length + more > MOST_BYTES) {
            throw new IllegalStateException("the text would be too long");
        }
        for (int shift = 56; shift >= 0; shift -= 8) {
            if (byteOf(bytes, shift) != 0) {
                program.put(byteOf(bytes, shift));
            }
        }
        return program.length;
    }

    public int clearText() {
        int before = program.length;
        program.length = 0;
        return before;
    }

    public int textLength() {
        return program.length;
    }

    public int example(int which) throws IllegalArgumentException {
        if (which < 0 || which > 2) {
            throw new IllegalArgumentException("no such example");
        }
        String text = which == 0 ? EXAMPLE_0 : which == 1 ? EXAMPLE_1 : EXAMPLE_2;
        program.length = 0;
        for (int index = 0; index < text.length(); index++) {
            program.put(text.charAt(index));
        }
        return program.length;
    }

    public int errorKind() {
        program.read();
        return program.wrongKind;
    }

    public int errorPlace() {
        program.read();
        return program.wrongPlace;
    }

    public int play(int slot) throws IndexOutOfBoundsException, IllegalStateException {
        Cursor cursor = standingAt(slot);
        program.read();
        if (program.wrongKind != 0) {
            throw new IllegalStateException("the text has an error");
        }
        for (int index = 0; index < program.moveCount; index++) {
            if (!makeMove(cursor, program.moveAt(index), program.numberOf(index))) {
                return index;
            }
        }
        return program.moveCount;
    }

    // The whole bench

    public int errors(int row) throws IndexOutOfBoundsException {
        Row walked = rowAt(row);
        int wrong = errorsForth(walked, row);
        if (isKindFor(row, VIEW)) {
            wrong += errorsForthAndBack(walked, row);
        }
        if (isKindFor(row, BACK)) {
            wrong += errorsBack(walked, row);
        }
        walker.leave();
        return wrong;
    }

    public double meanValue(int row) throws IndexOutOfBoundsException {
        Row source = rowAt(row);
        if (source.count == 0) {
            return 0.0;
        }
        int sum = 0;
        for (int place = 0; place < source.count; place++) {
            sum += source.numberAt(place);
        }
        return (double) sum / (double) source.count;
    }

    public float openShare() {
        int standing = 0;
        for (int slot = 0; slot < cursors.length; slot++) {
            if (cursors[slot].isStanding()) {
                standing++;
            }
        }
        return (float) standing / 5.0f;
    }

    // What the calls above share

    private Row rowAt(int row) {
        if (row < 0 || row >= rows.length) {
            throw new IndexOutOfBoundsException("no such row");
        }
        return rows[row];
    }

    private ListRow listAt(int row) {
        if (rowAt(row) instanceof ListRow list) {
            return list;
        }
        throw new IllegalArgumentException("not for this row");
    }

    private Cursor cursorAt(int slot) {
        if (slot < 0 || slot >= cursors.length) {
            throw new IndexOutOfBoundsException("no such slot");
        }
        return cursors[slot];
    }

    private Cursor standingAt(int slot) {
        Cursor cursor = cursorAt(slot);
        if (!cursor.isStanding()) {
            throw new IllegalStateException("the slot is empty");
        }
        return cursor;
    }

    private static boolean isValue(int number) {
        return number >= -MOST_VALUE && number <= MOST_VALUE;
    }

    private static void checkValue(int value) {
        if (!isValue(value)) {
            throw new IllegalArgumentException("a number is out of range");
        }
    }

    private static boolean isKindFor(int row, int kind) {
        if (kind == LIST || kind == VIEW) {
            return row == ARRAY || row == LINKED;
        }
        if (kind == BACK) {
            return row == LINKED || row == DEQUE;
        }
        return kind == FORTH;
    }

    private static int digestWith(int digest, int number) {
        return 31 * digest + number;
    }

    private static int byteOf(long bytes, int shift) {
        return (int) (bytes >>> shift) & 255;
    }

    private void loseCursors(Row row, Cursor keeper) {
        for (int slot = 0; slot < cursors.length; slot++) {
            if (cursors[slot] != keeper && cursors[slot].row == row) {
                cursors[slot].leave();
            }
        }
    }

    private int loseCursorsIfFewer(Row row, int before) {
        int lost = before - row.count;
        if (lost > 0) {
            loseCursors(row, null);
        }
        return lost;
    }

    private static boolean isFirstNext(Row one, int fromOne, Row two, int fromTwo) {
        if (fromTwo >= two.count) {
            return true;
        }
        return fromOne < one.count && one.numberAt(fromOne) <= two.numberAt(fromTwo);
    }

    private int removeBy(Cursor cursor) {
        int left = cursor.removeTold();
        if (left >= 0) {
            loseCursors(cursor.row, cursor);
        }
        return left;
    }

    private int insertBy(Cursor cursor, int value) {
        int left = cursor.insertHere(value);
        if (left >= 0) {
            loseCursors(cursor.row, cursor);
        }
        return left;
    }

    private boolean makeMove(Cursor cursor, int move, int number) {
        switch (move) {
            case 'n':
                return isValue(cursor.goOn());
            case 'p':
                return isValue(cursor.goBack());
            case 'r':
                return removeBy(cursor) >= 0;
            case 's':
                return isValue(cursor.replaceTold(number));
            default:
                return !cursor.hasNoRoom() && insertBy(cursor, number) >= 0;
        }
    }

    private int errorsForth(Row row, int rowNumber) {
        int wrong = 0;
        walker.enter(row, rowNumber, FORTH, 0);
        for (int place = 0; place < row.count; place++) {
            wrong += walker.goOn() == row.numberAt(place) ? 0 : 1;
        }
        return wrong + (walker.goOn() == NO_ELEMENT ? 0 : 1);
    }

    private int errorsBack(Row row, int rowNumber) {
        int wrong = 0;
        walker.enter(row, rowNumber, BACK, 0);
        for (int place = row.count - 1; place >= 0; place--) {
            wrong += walker.goOn() == row.numberAt(place) ? 0 : 1;
        }
        return wrong + (walker.goOn() == NO_ELEMENT ? 0 : 1);
    }

    private int errorsForthAndBack(Row row, int rowNumber) {
        int wrong = 0;
        walker.enter(row, rowNumber, VIEW, 0);
        for (int place = 0; place < row.count; place++) {
            int told = walker.goOn();
            boolean same = told == walker.goBack() && told == walker.goOn();
            wrong += same && told == row.numberAt(place) ? 0 : 1;
        }
        for (int place = row.count - 1; place >= 0; place--) {
            wrong += walker.goBack() == row.numberAt(place) ? 0 : 1;
        }
        return wrong + (walker.goBack() == NO_ELEMENT ? 0 : 1);
    }

    /** A row, however it is kept. Who calls join or putIn looks first whether there is room. */
    private abstract static class Row {
        int count;

        boolean hasPlace(int place) {
            return place >= 0 && place < count;
        }

        abstract int numberAt(int place);

        /** Takes a number in where new ones come to this row; tells whether it came. */
        abstract boolean join(int value);

        abstract void takeOut(int place);

        abstract void wipe();
    }

    /** A row that takes any number at any place. */
    private abstract static class ListRow extends Row {
        abstract void setNumber(int place, int value);

        abstract void putIn(int place, int value);

        boolean join(int value) {
            int before = count;
            putIn(count, value);
            return count > before;
        }
    }

    /** The numbers stand side by side. */
    private static final class ArrayRow extends ListRow {
        private final int[] numbers = new int[MOST_NUMBERS];

        int numberAt(int place) {
            return hasPlace(place) ? numbers[place] : 0;
        }

        void setNumber(int place, int value) {
            if (hasPlace(place)) {
                numbers[place] = value;
            }
        }

        void putIn(int place, int value) {
            if (place < 0 || place > count || count >= numbers.length) {
                return;
            }
            System.arraycopy(numbers, place, numbers, place + 1, count - place);
            numbers[place] = value;
            count++;
        }

        void takeOut(int place) {
            if (!hasPlace(place)) {
                return;
            }
            count--;
            System.arraycopy(numbers, place + 1, numbers, place, count - place);
        }

        void wipe() {
            count = 0;
        }
    }

    /** A number of a LinkedRow, or a spare one. */
    private static final class Link {
        int number;
        Link before;
        Link after;
    }

    /** Each number knows the one in front of it and the one behind it. */
    private static final class LinkedRow extends ListRow {
        private Link first;
        private Link last;
        // Links taken out, chained by after, so that a row never makes more than it can hold.
        private Link spare;

        private Link linkAt(int place) {
            if (!hasPlace(place)) {
                return null;
            }
            Link link = first;
            for (int passed = 0; passed < place && link != null; passed++) {
                link = link.after;
            }
            return link;
        }

        int numberAt(int place) {
            Link link = linkAt(place);
            return link == null ? 0 : link.number;
        }

        void setNumber(int place, int value) {
            Link link = linkAt(place);
            if (link != null) {
                link.number = value;
            }
        }

        void putIn(int place, int value) {
            if (place < 0 || place > count || count >= MOST_NUMBERS) {
                return;
            }
            Link behind = linkAt(place);
            Link front = behind == null ? last : behind.before;
            Link link = freshLink();
            link.number = value;
            tie(front, link);
            tie(link, behind);
            count++;
        }

        void takeOut(int place) {
            Link link = linkAt(place);
            if (link == null) {
                return;
            }
            tie(link.before, link.after);
            link.after = spare;
            spare = link;
            count--;
        }

        void wipe() {
            if (last != null) {
                last.after = spare;
                spare = first;
            }
            first = null;
            last = null;
            count = 0;
        }

        private Link freshLink() {
            if (spare == null) {
                return new Link();
            }
            Link link = spare;
            spare = link.after;
            return link;
        }

        /** Sets two links side by side; null stands for the end of the row. */
        private void tie(Link front, Link behind) {
            if (front == null) {
                first = behind;
            } else {
                front.after = behind;
            }
            if (behind == null) {
                last = front;
            } else {
                behind.before = front;
            }
        }
    }

    /** Each number that may come has a bit, so that none is there twice and all stand in rising order. */
    private static final class SortedRow extends Row {
        private static final int WORD_BITS = 64;

        private final long[] words = new long[2 * MOST_VALUE / WORD_BITS + 1];

        int numberAt(int place) {
            if (!hasPlace(place)) {
                return 0;
            }
            int passed = 0;
            for (int word = 0; word < words.length; word++) {
                int here = Long.bitCount(words[word]);
                if (place < passed + here) {
                    return word * WORD_BITS + bitAt(words[word], place - passed) - MOST_VALUE;
                }
                passed += here;
            }
            return 0;
        }

        boolean join(int value) {
            int word = wordOf(value);
            if (word < 0 || word >= words.length || count >= MOST_NUMBERS) {
                return false;
            }
            long before = words[word];
            words[word] |= maskOf(value);
            if (words[word] == before) {
                return false;
            }
            count++;
            return true;
        }

        void takeOut(int place) {
            int value = numberAt(place);
            int word = wordOf(value);
            if (!hasPlace(place) || word < 0 || word >= words.length) {
                return;
            }
            words[word] &= ~maskOf(value);
            count--;
        }

        void wipe() {
            for (int word = 0; word < words.length; word++) {
                words[word] = 0;
            }
            count = 0;
        }

        private static int wordOf(int value) {
            return (value + MOST_VALUE) / WORD_BITS;
        }

        private static long maskOf(int value) {
            return 1L << ((value + MOST_VALUE) % WORD_BITS);
        }

        /** Returns where a word has the bit that has so many others below it. */
        private static int bitAt(long word, int below) {
            long left = word;
            for (int passed = 0; passed < below; passed++) {
                left &= left - 1;
            }
            return Long.numberOfTrailingZeros(left);
        }
    }

    /** The numbers stand in a ring, which begins at the head. */
    private static final class DequeRow extends Row {
        private final int[] ring = new int[MOST_NUMBERS];
        private int head;

        private int spotOf(int place) {
            return (head + place) % MOST_NUMBERS;
        }

        int numberAt(int place) {
            return hasPlace(place) ? ring[spotOf(place)] : 0;
        }

        boolean join(int value) {
            if (count >= MOST_NUMBERS) {
                return false;
            }
            ring[spotOf(count)] = value;
            count++;
            return true;
        }

        void takeOut(int place) {
            if (!hasPlace(place)) {
                return;
            }
            // The numbers in front of it move up, so that dropping the first one moves none.
            for (int to = place; to > 0; to--) {
                ring[spotOf(to)] = ring[spotOf(to - 1)];
            }
            head = spotOf(1);
            count--;
        }

        void wipe() {
            count = 0;
        }
    }

    /** A slot's cursor; it stands nowhere while the slot is empty. */
    private static final class Cursor {
        Row row;
        int rowNumber;
        int kind;
        // How many numbers of the row stand nearer to its beginning than the cursor, for each kind.
        int place;
        // The place of the number that was told, or NONE.
        int told;

        void enter(Row target, int targetNumber, int newKind, int inFront) {
            row = target;
            rowNumber = targetNumber;
            kind = newKind;
            place = newKind == BACK ? target.count - inFront : inFront;
            told = NONE;
        }

        void leave() {
            row = null;
        }

        boolean isStanding() {
            return row != null;
        }

        boolean goesBothWays() {
            return kind == LIST || kind == VIEW;
        }

        boolean hasNoRoom() {
            return kind == LIST && row != null && row.count >= MOST_NUMBERS;
        }

        int behind() {
            if (row == null) {
                return 0;
            }
            return kind == BACK ? place : row.count - place;
        }

        int goOn() {
            if (row == null || behind() == 0) {
                return NO_ELEMENT;
            }
            if (kind == BACK) {
                place--;
                told = place;
            } else {
                told = place;
                place++;
            }
            return row.numberAt(told);
        }

        int goBack() {
            if (!goesBothWays()) {
                return UNSUPPORTED;
            }
            if (row == null || place == 0) {
                return NO_ELEMENT;
            }
            place--;
            told = place;
            return row.numberAt(told);
        }

        int removeTold() {
            if (kind == VIEW) {
                return UNSUPPORTED;
            }
            if (row == null || told == NONE) {
                return NO_STATE;
            }
            row.takeOut(told);
            if (told < place) {
                place--;
            }
            told = NONE;
            return row.count;
        }

        int replaceTold(int value) {
            if (kind == LIST && row instanceof ListRow list) {
                if (told == NONE) {
                    return NO_STATE;
                }
                int before = list.numberAt(told);
                list.setNumber(told, value);
                return before;
            }
            return UNSUPPORTED;
        }

        int insertHere(int value) {
            if (kind == LIST && row instanceof ListRow list) {
                list.putIn(place, value);
                place++;
                told = NONE;
                return list.count;
            }
            return UNSUPPORTED;
        }
    }

    /** The text, and what it says as a program. */
    private static final class Program {
        final int[] text = new int[MOST_BYTES];
        int length;
        int wrongKind;
        int wrongPlace;
        // The moves with their numbers, in the order in which they are made: brackets are written out.
        final int[] moves = new int[MOST_MOVES];
        final int[] numbers = new int[MOST_MOVES];
        int moveCount;
        // The brackets that are open: how often each one is done, and where its moves begin.
        final int[] openTimes = new int[MOST_OPEN];
        final int[] openStart = new int[MOST_OPEN];
        int openCount;
        // The place of the byte that is read next.
        int spot;

        void put(int sign) {
            if (length >= 0 && length < text.length) {
                text[length] = sign;
                length++;
            }
        }

        int moveAt(int index) {
            return index >= 0 && index < moves.length ? moves[index] : 0;
        }

        int numberOf(int index) {
            return index >= 0 && index < numbers.length ? numbers[index] : 0;
        }

        /** Reads the text up to its end or its first error. */
        void read() {
            wrongKind = 0;
            wrongPlace = NONE;
            moveCount = 0;
            openCount = 0;
            spot = 0;
            passBlanks();
            // Each turn that finds no error passes a byte at least.
            for (int turn = 0; turn < MOST_BYTES && spot < length && wrongKind == 0; turn++) {
                readMove();
                passBlanks();
            }
            if (wrongKind == 0 && openCount > 0) {
                fail(FORBIDDEN_BYTE, length);
            }
        }

        private void readMove() {
            int sign = byteAtSpot();
            if (sign == 'n' || sign == 'p' || sign == 'r') {
                spot++;
                addMove(sign, 0);
            } else if (sign == 's' || sign == 'a') {
                spot++;
                passBlanks();
                readNumber(sign);
            } else if (isDigit(sign)) {
                readTimes();
            } else if (sign == ')' && openCount > 0) {
                spot++;
                closeBracket();
            } else {
                fail(FORBIDDEN_BYTE, spot);
            }
        }

        private void readNumber(int sign) {
            int start = spot;
            boolean isBelow = byteAtSpot() == '-';
            if (isBelow) {
                spot++;
            }
            if (!isDigit(byteAtSpot())) {
                fail(FORBIDDEN_BYTE, spot);
                return;
            }
            int number = readDigits();
            if (number > MOST_VALUE) {
                fail(OUT_OF_RANGE, start);
                return;
            }
            addMove(sign, isBelow ? -number : number);
        }

        private void readTimes() {
            int start = spot;
            int times = readDigits();
            if (times > MOST_TIMES) {
                fail(OUT_OF_RANGE, start);
                return;
            }
            passBlanks();
            if (byteAtSpot() != '(') {
                fail(FORBIDDEN_BYTE, spot);
                return;
            }
            if (openCount >= MOST_OPEN) {
                fail(OUT_OF_RANGE, spot);
                return;
            }
            spot++;
            openTimes[openCount] = times;
            openStart[openCount] = moveCount;
            openCount++;
        }

        /** Writes the moves of a bracket as often as they are done; the first time they stand already. */
        private void closeBracket() {
            if (openCount <= 0 || openCount > MOST_OPEN) {
                return;
            }
            openCount--;
            int start = openStart[openCount];
            int end = moveCount;
            if (openTimes[openCount] == 0) {
                moveCount = start;
            }
            for (int time = 1; time < openTimes[openCount]; time++) {
                for (int index = start; index < end; index++) {
                    addMove(moveAt(index), numberOf(index));
                }
            }
        }

        /** A move behind so many others that it is never made is left out. */
        private void addMove(int move, int number) {
            if (moveCount >= 0 && moveCount < MOST_MOVES) {
                moves[moveCount] = move;
                numbers[moveCount] = number;
                moveCount++;
            }
        }

        /** Reads digits; what is far out of every range stays there, however many digits follow. */
        private int readDigits() {
            int number = 0;
            while (spot < length && isDigit(byteAtSpot())) {
                number = Math.min(10 * number + byteAtSpot() - '0', 10 * MOST_VALUE);
                spot++;
            }
            return number;
        }

        private void passBlanks() {
            while (spot < length && byteAtSpot() == ' ') {
                spot++;
            }
        }

        /** Behind the text there is a 0, which is no sign. */
        private int byteAtSpot() {
            return spot >= 0 && spot < length && spot < text.length ? text[spot] : 0;
        }

        private static boolean isDigit(int sign) {
            return sign >= '0' && sign <= '9';
        }

        private void fail(int kind, int place) {
            wrongKind = kind;
            wrongPlace = place;
        }
    }
}
