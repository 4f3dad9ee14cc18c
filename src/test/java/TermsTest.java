/** What 'Terms' says of all calls: what refused ones answer, in which order, and that nothing changes behind them. */
public final class TermsTest {
    private static final Check CHECK = new Check();
    private static final int UNKNOWN = -1, OUTSIDE = -2, STATE = -3, FULL = -4, NO = -5, NONE = -6;
    private static final int LOW = Integer.MIN_VALUE, HIGH = Integer.MAX_VALUE;

    public static void main(String[] args) {
        theNumbersOfTheRefusals();
        for (State state : State.values()) {
            for (Calls.Call call : Calls.EVERY) {
                beyondTheBoundsIsOutside(state, call);
                withinTheBoundsIsNotOutside(state, call);
            }
            whatOnlyTellsChangesNothing(state);
            noSuchMoveIsUnknown(state);
            whatOfAMoveIsOutside(state);
            unknownIsAheadOfOutside(state);
            outsideIsAheadOfNo(state);
            aMoveThatDoesNotKeepTheCodeIsNo(state);
            outsideIsAheadOfState(state);
        }
        nothingKeptIsState();
        aNinthMoveIsFull();
        noIsAheadOfFull();
        outsideIsAheadOfFull();
        noneOnlyWhereNoRefusalFits();
        theLastOfManyCalls();
        CHECK.end();
    }

    private static void theNumbersOfTheRefusals() {
        CHECK.due("UNKNOWN", TripleTrap.UNKNOWN, UNKNOWN);
        CHECK.due("OUTSIDE", TripleTrap.OUTSIDE, OUTSIDE);
        CHECK.due("STATE", TripleTrap.STATE, STATE);
        CHECK.due("FULL", TripleTrap.FULL, FULL);
        CHECK.due("NO", TripleTrap.NO, NO);
        CHECK.due("NONE", TripleTrap.NONE, NONE);
    }

    /** "What is refused changes nothing": an object with the call looks as one without it. */
    private static void refused(State state, String text, Calls.Asked asked, int want, int... numbers) {
        TripleTrap x = state.make();
        String call = state + " " + text + java.util.Arrays.toString(numbers);
        CHECK.due(call, asked.of(x, numbers), want);
        CHECK.holds(call + " was refused and changed something", State.picture(state.make()).equals(State.picture(x)));
    }

    /** Whether one of the numbers, two or all are not as told, and whatever the others are. */
    private static void beyondTheBoundsIsOutside(State state, Calls.Call call) {
        for (int wrongOnes = 1; wrongOnes < 1 << call.size(); wrongOnes++) {
            for (int[] numbers : Calls.rows(call, wrongOnes)) {
                refused(state, call.name(), call.asked(), OUTSIDE, numbers);
            }
        }
    }

    private static void withinTheBoundsIsNotOutside(State state, Calls.Call call) {
        for (int[] numbers : Calls.rows(call, 0)) {
            int answer = call.asked().of(state.make(), numbers);
            CHECK.holds(state + " " + call.text(numbers) + " is within the bounds", answer != OUTSIDE);
        }
    }

    private static boolean onlyTells(Calls.Call call) {
        String name = call.name().substring(call.name().indexOf(' ') + 1);
        return !java.util.Set.of("move", "sure", "image", "restore").contains(name);
    }

    private static void whatOnlyTellsChangesNothing(State state) {
        TripleTrap x = state.make();
        for (int i = 0; i < state.moves(); i++) {
            x.told(i, i % 3);
        }
        CHECK.holds(state + " told changed something", State.picture(state.make()).equals(State.picture(x)));
        for (Calls.Call call : Calls.EVERY) {
            if (onlyTells(call)) {
                TripleTrap y = state.make();
                for (int[] numbers : Calls.rows(call, 0)) {
                    call.asked().of(y, numbers);
                }
                CHECK.holds(state + " " + call.name() + " changed something",
                    State.picture(state.make()).equals(State.picture(y)));
            }
        }
    }

    /** "UNKNOWN -1 (no such MOVE)": numbers go from 0 to one less than there are. */
    private static void noSuchMoveIsUnknown(State state) {
        for (int move : new int[] {-1, state.moves(), state.moves() + 1, 8, LOW, HIGH}) {
            refused(state, "13 drop", (x, n) -> x.drop(n[0]), UNKNOWN, move);
            for (int what = 0; what <= 2; what++) {
                refused(state, "14 told", (x, n) -> x.told(n[0], n[1]), UNKNOWN, move, what);
            }
        }
        for (int move = 0; move < state.moves(); move++) {
            CHECK.due(state + " 13 drop " + move, state.make().drop(move), state.moves() - 1);
            CHECK.holds(state + " 14 told " + move, state.make().told(move, 0) >= 1);
        }
    }

    private static void whatOfAMoveIsOutside(State state) {
        for (int move = 0; move < state.moves(); move++) {
            for (int what : Calls.beyond(0, 2)) {
                refused(state, "14 told", (x, n) -> x.told(n[0], n[1]), OUTSIDE, move, what);
            }
        }
    }

    private static void unknownIsAheadOfOutside(State state) {
        for (int move : new int[] {-1, state.moves(), LOW, HIGH}) {
            for (int what : Calls.beyond(0, 2)) {
                refused(state, "14 told, both wrong", (x, n) -> x.told(n[0], n[1]), UNKNOWN, move, what);
            }
        }
    }

    /** No MOVE by 5, 7 or 22 keeps the code, so NO would fit too, were it not for b. */
    private static void outsideIsAheadOfNo(State state) {
        for (int a : new int[] {5, 7, 22}) {
            for (int b : Calls.beyond(0, 22)) {
                refused(state, "12 move, b wrong", (x, n) -> x.move(n[0], n[1]), OUTSIDE, a, b);
            }
        }
    }

    private static void aMoveThatDoesNotKeepTheCodeIsNo(State state) {
        for (int a : new int[] {5, 7, 10, 11, 14, 15, 17, 19, 20, 21, 22}) {
            for (int b : new int[] {0, 1, 21, 22}) {
                refused(state, "12 move", (x, n) -> x.move(n[0], n[1]), NO, a, b);
            }
        }
    }

    /** Nothing was kept in an image that there is not, so STATE would fit too. */
    private static void outsideIsAheadOfState(State state) {
        for (int k : Calls.beyond(0, 1)) {
            refused(state, "21 restore", (x, n) -> x.restore(n[0]), OUTSIDE, k);
        }
    }

    private static void nothingKeptIsState() {
        refused(State.EMPTY, "21 restore", (x, n) -> x.restore(n[0]), STATE, 0);
        refused(State.EMPTY, "21 restore", (x, n) -> x.restore(n[0]), STATE, 1);
        refused(State.SOME, "21 restore, the other is kept", (x, n) -> x.restore(n[0]), STATE, 0);
    }

    private static void aNinthMoveIsFull() {
        for (int a : new int[] {1, 2, 3, 4, 6, 8, 9, 12, 13, 16, 18}) {
            for (int b : new int[] {0, 1, 21, 22}) {
                refused(State.FULL, "12 a ninth move", (x, n) -> x.move(n[0], n[1]), FULL, a, b);
            }
        }
    }

    private static void noIsAheadOfFull() {
        refused(State.FULL, "12 a ninth move that does not keep the code", (x, n) -> x.move(n[0], n[1]), NO, 5, 0);
        refused(State.FULL, "12 a ninth move that does not keep the code", (x, n) -> x.move(n[0], n[1]), NO, 22, 22);
    }

    private static void outsideIsAheadOfFull() {
        refused(State.FULL, "12 a ninth move without a", (x, n) -> x.move(n[0], n[1]), OUTSIDE, 0, 0);
        refused(State.FULL, "12 a ninth move without b", (x, n) -> x.move(n[0], n[1]), OUTSIDE, 1, 23);
    }

    /** "NONE -6 is answered only where no refusal fits": 15 is not read, nor freed by these eight moves. */
    private static void noneOnlyWhereNoRefusalFits() {
        for (int what : Calls.beyond(0, 1)) {
            refused(State.EMPTY, "9 read", (x, n) -> x.read(n[0], n[1]), OUTSIDE, 15, what);
            refused(State.EMPTY, "15 freed", (x, n) -> x.freed(n[0], n[1]), OUTSIDE, 15, what);
            refused(State.FULL, "15 freed", (x, n) -> x.freed(n[0], n[1]), OUTSIDE, 15, what);
        }
        for (int word : Calls.beyond(0, Calls.ALL)) {
            refused(State.EMPTY, "15 freed", (x, n) -> x.freed(n[0], n[1]), OUTSIDE, word, 0);
            refused(State.EMPTY, "15 freed", (x, n) -> x.freed(n[0], n[1]), OUTSIDE, word, 1);
        }
        CHECK.due("9 read(15, 0)", State.EMPTY.make().read(15, 0), NONE);
        CHECK.due("15 freed(0, 0) without moves", State.EMPTY.make().freed(0, 0), NONE);
        CHECK.due("15 freed of eight moves", State.FULL.make().freed(15, 0), NONE);
    }

    /** "An object is used for at most 512 calls after it has been made": the 512th is answered as the first. */
    private static void theLastOfManyCalls() {
        TripleTrap x = new TripleTrap();
        for (int i = 0; i < 8; i++) {
            x.move(18, i);
        }
        for (int i = 0; i < 251; i++) {
            CHECK.due("drop in round " + i, x.drop(0), 7);
            CHECK.due("move in round " + i, x.move(18, i % 23), 7);
        }
        CHECK.due("call 511", x.move(1, 0), FULL);
        CHECK.due("call 512", x.told(7, 1), 250 % 23);
    }
}
