/** Long runs of calls on a bench and on the model, with the same answers due; the runs are the same each time. */
public final class ModelTest {
    private static final int RUNS = 4000;
    // A bench answers 512 calls; what comes in one go, and the look at the end, need less than the rest.
    private static final int CALLS = 470;
    private static final String SIGNS = "nprsa()-0123456789  ";
    private static final String[] PIECES = {"n", "n", "p", "p", "r", "s7", "a8", "a-999", "s999", " ", "2(", "20(",
        "0(", "3 (", ")", ")", ")", "n p", "s -1", "1000", "21", "s", "s-", "x", "a1000", "7(n)", "2(n r)", "3(a1 p)"};

    private final CursorBench bench = new CursorBench();
    private final Model model = new Model();
    private final int style;
    private long seed;
    private int calls = 0;

    private ModelTest(int run) {
        seed = run * 7919L + 17;
        style = run % 4;
    }

    public static void main(String[] args) {
        for (int run = 0; run < RUNS; run++) {
            new ModelTest(run).makeCalls(run);
        }
        Check.end("ModelTest");
    }

    /** A number from 0 to below bound, from a row of numbers that is always the same. */
    private int pick(int bound) {
        seed = seed * 6364136223846793005L + 1442695040888963407L;
        return (int) ((seed >>> 33) % bound);
    }

    private int near(int least, int most) {
        switch (pick(12)) {
            case 0: return least;
            case 1: return most;
            case 2: return pick(3) == 0 ? least - 1 : least;
            case 3: return pick(3) == 0 ? most + 1 : most;
            case 4: return pick(40) == 0 ? Integer.MIN_VALUE : pick(40) == 0 ? Integer.MAX_VALUE : least;
            default: return least + pick(most - least + 1);
        }
    }

    private int row() {
        return pick(60) == 0 ? near(0, 3) : style == 1 ? pick(2) : pick(4);
    }

    private int slot() {
        return pick(60) == 0 ? near(0, 4) : pick(5);
    }

    private int value() {
        return pick(6) == 0 ? near(-999, 999) : pick(12) - 4;
    }

    private void makeCalls(int run) {
        while (calls < CALLS) {
            String what = "run " + run + " call " + calls;
            switch (pick(style == 2 ? 17 : 13)) {
                case 0: case 1: callRow(what); break;
                case 2: callWhole(what); break;
                case 3: case 4: callOpen(what); break;
                case 5: callSlot(what); break;
                case 6: case 7: case 8: case 9: case 10: callMove(what); break;
                case 11: callChange(what); break;
                default: callText(what); break;
            }
        }
        for (int row = 0; row < Shown.ROWS; row++) {
            Check.due("run " + run + " at the end", bench.digest(row), model.digest(row));
            Check.due("run " + run + " at the end", bench.size(row), model.size(row));
        }
    }

    private void both(String what, Check.Call ours, Check.Call due) {
        calls++;
        Check.due(what, Check.answer(ours), Check.answer(due));
    }

    private void callRow(String what) {
        int row = row();
        int number = value();
        int many = pick(3) == 0 ? near(0, 40) : pick(8);
        int step = pick(4) == 0 ? near(-20, 20) : pick(5) - 2;
        // The calls that empty a row come seldom, or no row would ever be full.
        switch (pick(4) == 0 ? pick(3) : 3 + pick(style == 3 ? 20 : 10)) {
            case 0: both(what + " dropFirst", () -> bench.dropFirst(row), () -> model.dropFirst(row)); break;
            case 1: both(what + " fill", () -> bench.fill(row, number, step, many),
                    () -> model.fill(row, number, step, many)); break;
            case 2: both(what + " clear", () -> bench.clear(row), () -> model.clear(row)); break;
            case 3: both(what + " size", () -> bench.size(row), () -> model.size(row)); break;
            case 4: both(what + " at", () -> bench.at(row, many - 1), () -> model.at(row, many - 1)); break;
            case 5: both(what + " digest", () -> bench.digest(row), () -> model.digest(row)); break;
            case 6: both(what + " isSame", () -> bench.isSame(row, many % 5), () -> model.isSame(row, many % 5)); break;
            case 7: both(what + " meanValue", () -> bench.meanValue(row), () -> model.meanValue(row)); break;
            case 8: both(what + " errors", () -> bench.errors(row), () -> model.errors(row)); break;
            default: both(what + " append", () -> bench.append(row, number), () -> model.append(row, number)); break;
        }
    }

    private void callWhole(String what) {
        int row = row();
        int other = row();
        int to = row();
        int modulus = pick(3) == 0 ? near(1, 100) : 2 + pick(6);
        int rest = pick(3) == 0 ? near(0, 99) : pick(6);
        switch (pick(6)) {
            case 0: both(what + " sieve", () -> bench.sieve(row, modulus, rest),
                    () -> model.sieve(row, modulus, rest)); break;
            case 1: both(what + " unlike", () -> bench.unlike(row), () -> model.unlike(row)); break;
            case 2: both(what + " turn", () -> bench.turn(row), () -> model.turn(row)); break;
            case 3: both(what + " twice", () -> bench.twice(row), () -> model.twice(row)); break;
            default: both(what + " merge", () -> bench.merge(row, other, to), () -> model.merge(row, other, to)); break;
        }
    }

    private void callOpen(String what) {
        int slot = slot();
        int row = row();
        int kind = pick(30) == 0 ? near(0, 3) : pick(3) == 0 ? 0 : pick(4);
        int size = row < 0 || row > 3 ? 3 : model.size(row);
        int place = kind >= 2 && pick(10) > 0 ? 0 : near(0, size);
        both(what + " open", () -> bench.open(slot, row, kind, place), () -> model.open(slot, row, kind, place));
    }

    private void callSlot(String what) {
        int slot = slot();
        switch (pick(12)) {
            case 0: both(what + " close", () -> bench.close(slot), () -> model.close(slot)); break;
            case 1: both(what + " rest", () -> bench.rest(slot), () -> model.rest(slot)); break;
            case 2: both(what + " rowOf", () -> bench.rowOf(slot), () -> model.rowOf(slot)); break;
            case 3: both(what + " kindOf", () -> bench.kindOf(slot), () -> model.kindOf(slot)); break;
            case 4: both(what + " hasNext", () -> bench.hasNext(slot), () -> model.hasNext(slot)); break;
            case 5: both(what + " hasPrevious", () -> bench.hasPrevious(slot), () -> model.hasPrevious(slot)); break;
            case 6: both(what + " nextPlace", () -> bench.nextPlace(slot), () -> model.nextPlace(slot)); break;
            case 7: both(what + " previousPlace", () -> bench.previousPlace(slot),
                    () -> model.previousPlace(slot)); break;
            case 8: both(what + " openShare", bench::openShare, model::openShare); break;
            default: both(what + " isOpen", () -> bench.isOpen(slot), () -> model.isOpen(slot)); break;
        }
    }

    private void callMove(String what) {
        int slot = slot();
        if (pick(2) == 0) {
            both(what + " next", () -> bench.next(slot), () -> model.next(slot));
        } else {
            both(what + " previous", () -> bench.previous(slot), () -> model.previous(slot));
        }
        if (pick(3) == 0) {
            callChange(what);
        }
    }

    private void callChange(String what) {
        int slot = slot();
        int number = value();
        switch (pick(3)) {
            case 0: both(what + " remove", () -> bench.remove(slot), () -> model.remove(slot)); break;
            case 1: both(what + " replace", () -> bench.replace(slot, number),
                    () -> model.replace(slot, number)); break;
            default: both(what + " insert", () -> bench.insert(slot, number), () -> model.insert(slot, number)); break;
        }
    }

    private void callText(String what) {
        int slot = slot();
        int which = near(0, 2);
        switch (pick(14)) {
            case 0: both(what + " clearText", bench::clearText, model::clearText); break;
            case 1: both(what + " example", () -> bench.example(which), () -> model.example(which)); break;
            case 2: both(what + " textLength", bench::textLength, model::textLength); break;
            case 3: case 4: case 5: callType(what); break;
            case 6: case 7: both(what + " errorKind", bench::errorKind, model::errorKind); break;
            case 8: case 9: both(what + " errorPlace of " + model.text, bench::errorPlace, model::errorPlace); break;
            case 10: writeRight(what); break;
            default: both(what + " play", () -> bench.play(slot), () -> model.play(slot)); break;
        }
    }

    private void callType(String what) {
        long bytes = 0;
        String piece = PIECES[pick(PIECES.length)];
        if (pick(4) == 0) {
            piece = "";
            for (int index = 0; index < 8; index++) {
                piece += pick(9) == 0 ? '\0' : pick(40) == 0 ? (char) pick(256) : SIGNS.charAt(pick(SIGNS.length()));
            }
        }
        for (int index = 0; index < piece.length(); index++) {
            bytes = bytes << 8 | piece.charAt(index);
        }
        long typed = bytes;
        both(what + " type", () -> bench.type(typed), () -> model.type(typed));
    }

    /** Writes a text without an error, but for its length and now and then its depth. */
    private void writeRight(String what) {
        both(what + " clearText", bench::clearText, model::clearText);
        int depth = 0;
        for (int piece = pick(14); piece >= 0 || depth > 0; piece--) {
            String next = piece < 0 ? ")" : PIECES[pick(19)];
            if (next.equals(")") && depth == 0 || next.endsWith("(") && depth == 3 && pick(20) > 0) {
                next = "n";
            }
            depth += next.endsWith("(") ? 1 : next.equals(")") ? -1 : 0;
            long bytes = 0;
            for (int index = 0; index < next.length(); index++) {
                bytes = bytes << 8 | next.charAt(index);
            }
            long typed = bytes;
            both(what + " type", () -> bench.type(typed), () -> model.type(typed));
        }
        both(what + " errorPlace of " + model.text, bench::errorPlace, model::errorPlace);
    }
}
