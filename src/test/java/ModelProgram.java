import java.util.ArrayList;
import java.util.List;

/** A program read byte by byte, as a machine of states, and written out by a tree of brackets. */
final class ModelProgram {
    private enum State { MOVE, BEFORE_NUMBER, BEHIND_MINUS, IN_NUMBER, IN_TIMES, BEHIND_TIMES }

    /** A bracket, or the whole program: its parts are moves (String) and brackets. */
    private static final class Bracket {
        final int times;
        final List<Object> parts = new ArrayList<>();

        Bracket(int times) {
            this.times = times;
        }
    }

    final int errorKind;
    final int errorPlace;
    private final List<Bracket> open = new ArrayList<>();
    private final Bracket whole = new Bracket(1);
    private State state = State.MOVE;
    private String token = "";
    private int tokenPlace = 0;

    ModelProgram(String text) {
        open.add(whole);
        int kind = 0;
        int place = -1;
        for (int index = 0; index <= text.length() && kind == 0; index++) {
            // The end is read as a blank first, which ends a number.
            char sign = index < text.length() ? text.charAt(index) : ' ';
            int wrong = read(sign, index);
            if (wrong != 0) {
                kind = Math.abs(wrong);
                place = wrong == -2 ? tokenPlace : index;
            }
        }
        if (kind == 0 && (state != State.MOVE || open.size() > 1)) {
            kind = 1;
            place = text.length();
        }
        errorKind = kind;
        errorPlace = place;
    }

    /** Returns 0, or the kind of the error at this byte; -2 for one where the number began. */
    private int read(char sign, int index) {
        boolean isDigit = Character.digit(sign, 10) >= 0 && sign < 128;
        if (state == State.IN_NUMBER && !isDigit) {
            if (new java.math.BigInteger(token.substring(1)).abs().bitLength() > 20
                    || Math.abs(Integer.parseInt(token.substring(1))) > 999) {
                return -2;
            }
            top().parts.add(token.charAt(0) + "" + Integer.parseInt(token.substring(1)));
            state = State.MOVE;
        }
        if (state == State.IN_TIMES && !isDigit) {
            if (new java.math.BigInteger(token).compareTo(java.math.BigInteger.valueOf(20)) > 0) {
                return -2;
            }
            state = State.BEHIND_TIMES;
        }
        if (isDigit) {
            return readDigit(sign, index);
        }
        if (sign == ' ') {
            return state == State.BEHIND_MINUS ? 1 : 0;
        }
        return readSign(sign, index);
    }

    private int readDigit(char sign, int index) {
        switch (state) {
            case MOVE:
                token = "";
                tokenPlace = index;
                state = State.IN_TIMES;
                break;
            case BEFORE_NUMBER:
                tokenPlace = index;
                state = State.IN_NUMBER;
                break;
            case BEHIND_MINUS:
                state = State.IN_NUMBER;
                break;
            case BEHIND_TIMES:
                return 1;
            default:
                break;
        }
        token += sign;
        return 0;
    }

    private int readSign(char sign, int index) {
        if (state == State.BEHIND_TIMES && sign == '(') {
            if (open.size() == 4) {
                return 2;
            }
            Bracket inner = new Bracket(Integer.parseInt(token));
            top().parts.add(inner);
            open.add(inner);
            state = State.MOVE;
        } else if (state == State.BEFORE_NUMBER && sign == '-') {
            tokenPlace = index;
            token += sign;
            state = State.BEHIND_MINUS;
        } else if (state == State.MOVE && "npr".indexOf(sign) >= 0) {
            top().parts.add("" + sign);
        } else if (state == State.MOVE && "sa".indexOf(sign) >= 0) {
            token = "" + sign;
            state = State.BEFORE_NUMBER;
        } else if (state == State.MOVE && sign == ')' && open.size() > 1) {
            open.remove(open.size() - 1);
        } else {
            return 1;
        }
        return 0;
    }

    private Bracket top() {
        return open.get(open.size() - 1);
    }

    /** The moves in the order in which they are made, no more than so many. */
    List<String> moves(int most) {
        List<String> moves = new ArrayList<>();
        writeOut(whole, moves, most);
        return moves;
    }

    private static void writeOut(Bracket bracket, List<String> moves, int most) {
        for (int time = 0; time < bracket.times; time++) {
            for (Object part : bracket.parts) {
                if (moves.size() == most) {
                    return;
                }
                if (part instanceof Bracket) {
                    writeOut((Bracket) part, moves, most);
                } else {
                    moves.add((String) part);
                }
            }
        }
    }
}
