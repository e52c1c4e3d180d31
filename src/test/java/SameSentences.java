/** Sentences that stand in many promises word for word. */
final class SameSentences extends Names {
    /** A call of which all parameters but one are right. */
    interface PartCall {
        Object on(CursorBench bench, int part);
    }

    private static final String NO_ROW = "Throws `IndexOutOfBoundsException` if there is no such row";
    private static final String NO_SLOT = "Throws `IndexOutOfBoundsException` if there is no such slot";
    private static final String EMPTY_SLOT = "Throws `IllegalStateException` if the slot is empty";

    private SameSentences() {
    }

    /** All rows are taken, and none but them. */
    static void rows(String promise, PartCall call) {
        Sentence.of(promise, "- `row`: ARRAY to DEQUE", () -> {
            isTaken(ROWS, call);
            isNoPlace(new int[] {ARRAY - 1, DEQUE + 1}, call);
        });
        noRow(promise, call);
    }

    static void noRow(String promise, PartCall call) {
        Sentence.of(promise, NO_ROW, () -> isNoPlace(NO_ROWS, call));
    }

    /** All slots with a cursor are taken, and none but them. */
    static void slots(String promise, PartCall call) {
        anySlots(promise, call);
        Sentence.of(promise, EMPTY_SLOT, () -> failsIfEmpty(call));
    }

    /** All slots are taken, and none but them. */
    static void anySlots(String promise, PartCall call) {
        Sentence.of(promise, "- `slot`: 0 to 4", () -> {
            isTaken(SLOTS, call);
            isNoPlace(new int[] {-1, 5}, call);
        });
        Sentence.of(promise, NO_SLOT, () -> isNoPlace(NO_SLOTS, call));
    }

    /** No empty slot is taken: new ones, closed ones, and those whose cursors are gone. */
    static void failsIfEmpty(PartCall call) {
        for (int slot : SLOTS) {
            Try.fails("new slot " + slot, bench -> { }, STATE, bench -> call.on(bench, slot));
            Try.fails("closed slot " + slot, bench -> {
                Try.busy(bench);
                bench.close(slot);
            }, STATE, bench -> call.on(bench, slot));
            Try.fails("left slot " + slot, bench -> {
                Try.busy(bench);
                bench.append(bench.rowOf(slot), 99);
            }, STATE, bench -> call.on(bench, slot));
        }
    }

    static void isTaken(int[] parts, PartCall call) {
        for (int part : parts) {
            Try.due(part + " is refused", false, bench -> {
                Try.busy(bench);
                return Try.isThrow(Check.answer(() -> call.on(bench, part)));
            });
        }
    }

    static void isNoPlace(int[] parts, PartCall call) {
        for (int part : parts) {
            Try.fails("" + part, Try::busy, NO_PLACE, bench -> call.on(bench, part));
            Try.fails(part + " on a new bench", bench -> { }, NO_PLACE, bench -> call.on(bench, part));
        }
    }

    static void isBad(int[] parts, PartCall call) {
        for (int part : parts) {
            Try.fails("" + part, Try::busy, BAD, bench -> call.on(bench, part));
        }
    }
}
