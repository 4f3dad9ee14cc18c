/** The edges that the document names in its part 3: moves. */
public final class MoveEdgesTest {
    private static final Check CHECK = new Check();
    private static final int ALL = 8388607;
    private static final int UNKNOWN = -1, FULL = -4, NO = -5, NONE = -6;

    public static void main(String[] args) {
        movedIsLeftOverBy23();
        theLeastAndTheGreatestThatKeep();
        numbersGoFromZeroToSeven();
        eightAndNoMore();
        aDropMakesRoom();
        theSameMoveAgain();
        dropTheFirst();
        dropTheLast();
        dropOneBetween();
        dropTheOnlyOne();
        nothingToDrop();
        toldHasTheEdgesOfAAndB();
        theFirstBringsAllItsTriples();
        theSameBringsNone();
        onlyLesserNumbersTakeAway();
        toldIsAsThingsAre();
        freedWithoutMoves();
        freedTakesThreeAndNotFour();
        freedOfPlacesZeroToTen();
        freedWrapsAroundAndBack();
        theFirstMoveTells();
        freedIsAsThingsAre();
        openWithoutMoves();
        coveredIsPlacesZeroToTen();
        coveredWrapsAround();
        theFirstOpenByTheseNumbers();
        openOfEight();
        openIsAsThingsAre();
        CHECK.end();
    }

    private static void due(String call, int got, int want) {
        CHECK.due(call, got, want);
    }

    private static int places(int... places) {
        int word = 0;
        for (int p : places) {
            word |= 1 << p;
        }
        return word;
    }

    /** An object that was told moves, a and b of each in turn. */
    private static TripleTrap with(int... numbers) {
        TripleTrap x = new TripleTrap();
        for (int i = 0; i < numbers.length; i += 2) {
            due("move " + i / 2, x.move(numbers[i], numbers[i + 1]), i / 2);
        }
        return x;
    }

    private static TripleTrap withEight() {
        return with(1, 0, 2, 1, 3, 2, 4, 3, 6, 4, 8, 5, 9, 6, 18, 22);
    }

    private static void movesDue(TripleTrap x, int... numbers) {
        due("how many moves", x.count(0), numbers.length / 2);
        for (int i = 0; i < numbers.length; i += 2) {
            due("a of " + i / 2, x.told(i / 2, 0), numbers[i]);
            due("b of " + i / 2, x.told(i / 2, 1), numbers[i + 1]);
        }
        due("one behind the last", x.told(numbers.length / 2, 0), UNKNOWN);
    }

    /** "PLACE a times p, and b, added, left over by 23". */
    private static void movedIsLeftOverBy23() {
        TripleTrap x = with();
        due("1 times 0 and 0", x.moved(1, 1, 0), 1);
        due("1 times 22 and 0", x.moved(1 << 22, 1, 0), 1 << 22);
        due("1 times 0 and 22", x.moved(1, 1, 22), 1 << 22);
        due("1 times 1 and 22, 23", x.moved(2, 1, 22), 1);
        due("22 times 1 and 0", x.moved(2, 22, 0), 1 << 22);
        due("22 times 1 and 1, 23", x.moved(2, 22, 1), 1);
        due("22 times 22 and 0, 484", x.moved(1 << 22, 22, 0), 2);
        due("22 times 22 and 22, 506", x.moved(1 << 22, 22, 22), 1);
        due("a word that moves not", x.moved(3189, 1, 0), 3189);
        due("several places", x.moved(places(0, 1, 22), 2, 3), places(3, 5, 1));
    }

    /** Those that keep the code are the squares left over by 23: 1 is the least of them and 18 the greatest. */
    private static void theLeastAndTheGreatestThatKeep() {
        TripleTrap x = with();
        for (int b : new int[] {0, 1, 22}) {
            due("keeps(1, " + b + ")", x.keeps(1, b), 1);
            due("keeps(18, " + b + ")", x.keeps(18, b), 1);
            due("keeps(22, " + b + ")", x.keeps(22, b), 0);
            due("keeps(5, " + b + ")", x.keeps(5, b), 0);
        }
        for (int a = 19; a <= 22; a++) {
            due("keeps(" + a + ", 0)", x.keeps(a, 0), 0);
        }
    }

    private static void numbersGoFromZeroToSeven() {
        movesDue(with());
        movesDue(with(18, 22), 18, 22);
        movesDue(withEight(), 1, 0, 2, 1, 3, 2, 4, 3, 6, 4, 8, 5, 9, 6, 18, 22);
    }

    private static void eightAndNoMore() {
        TripleTrap x = with(1, 0, 1, 1, 1, 2, 1, 3, 1, 4, 1, 5, 1, 6);
        due("seven are not full", x.count(0), 7);
        due("a move that is refused takes no room", x.move(5, 0), NO);
        due("the eighth", x.move(1, 7), 7);
        due("the ninth", x.move(1, 8), FULL);
        due("the ninth again", x.move(1, 7), FULL);
        movesDue(x, 1, 0, 1, 1, 1, 2, 1, 3, 1, 4, 1, 5, 1, 6, 1, 7);
    }

    private static void aDropMakesRoom() {
        TripleTrap x = withEight();
        due("drop(7)", x.drop(7), 7);
        due("the eighth anew", x.move(2, 20), 7);
        due("the ninth", x.move(2, 21), FULL);
        movesDue(x, 1, 0, 2, 1, 3, 2, 4, 3, 6, 4, 8, 5, 9, 6, 2, 20);
    }

    private static void theSameMoveAgain() {
        TripleTrap x = with(1, 0, 1, 0, 1, 0, 1, 0, 1, 0, 1, 0, 1, 0, 1, 0);
        due("a ninth of the same", x.move(1, 0), FULL);
        due("drop(3)", x.drop(3), 7);
        movesDue(x, 1, 0, 1, 0, 1, 0, 1, 0, 1, 0, 1, 0, 1, 0);
    }

    /** "those behind it have numbers less by 1 then". */
    private static void dropTheFirst() {
        TripleTrap x = withEight();
        due("drop(0)", x.drop(0), 7);
        movesDue(x, 2, 1, 3, 2, 4, 3, 6, 4, 8, 5, 9, 6, 18, 22);
    }

    private static void dropTheLast() {
        TripleTrap x = withEight();
        due("drop(7)", x.drop(7), 7);
        movesDue(x, 1, 0, 2, 1, 3, 2, 4, 3, 6, 4, 8, 5, 9, 6);
        due("drop(7) again", x.drop(7), UNKNOWN);
        due("drop(6)", x.drop(6), 6);
        movesDue(x, 1, 0, 2, 1, 3, 2, 4, 3, 6, 4, 8, 5);
    }

    private static void dropOneBetween() {
        TripleTrap x = withEight();
        due("drop(6)", x.drop(6), 7);
        movesDue(x, 1, 0, 2, 1, 3, 2, 4, 3, 6, 4, 8, 5, 18, 22);
        due("drop(1)", x.drop(1), 6);
        movesDue(x, 1, 0, 3, 2, 4, 3, 6, 4, 8, 5, 18, 22);
    }

    private static void dropTheOnlyOne() {
        TripleTrap x = with(18, 22);
        due("drop(1)", x.drop(1), UNKNOWN);
        due("drop(0)", x.drop(0), 0);
        movesDue(x);
        due("drop(0) again", x.drop(0), UNKNOWN);
        due("numbers start from 0 again", x.move(4, 9), 0);
        movesDue(x, 4, 9);
    }

    private static void nothingToDrop() {
        TripleTrap x = with();
        due("drop(0)", x.drop(0), UNKNOWN);
        due("told(0, 0)", x.told(0, 0), UNKNOWN);
        due("told(0, 1)", x.told(0, 1), UNKNOWN);
        due("told(0, 2)", x.told(0, 2), UNKNOWN);
        TripleTrap y = withEight();
        for (int left = 7; left >= 0; left--) {
            due("drop down to " + left, y.drop(0), left);
        }
        due("all are gone", y.drop(0), UNKNOWN);
    }

    private static void toldHasTheEdgesOfAAndB() {
        TripleTrap x = with(1, 0, 18, 22, 1, 22, 18, 0);
        movesDue(x, 1, 0, 18, 22, 1, 22, 18, 0);
    }

    /** Eleven places come to 0 to 10, and three of eleven are 165. */
    private static void theFirstBringsAllItsTriples() {
        due("(1, 0)", with(1, 0).told(0, 2), 165);
        due("(1, 22)", with(1, 22).told(0, 2), 165);
        due("(18, 22)", with(18, 22).told(0, 2), 165);
    }

    private static void theSameBringsNone() {
        TripleTrap x = with(18, 22, 1, 0, 18, 22, 1, 0);
        due("the first", x.told(0, 2), 165);
        due("the same as 0", x.told(2, 2), 0);
        due("the same as 1", x.told(3, 2), 0);
    }

    /** (1, 0) brings places 0 to 10, (1, 1) 22 and 0 to 9: each has the triples of one place alone, two of ten. */
    private static void onlyLesserNumbersTakeAway() {
        TripleTrap x = with(1, 0, 1, 1);
        due("the first, ahead of its like", x.told(0, 2), 165);
        due("the second", x.told(1, 2), 45);
        TripleTrap y = with(1, 1, 1, 0);
        due("the first, told the other way", y.told(0, 2), 165);
        due("the second, told the other way", y.told(1, 2), 45);
        TripleTrap z = with(1, 0, 1, 11, 1, 1);
        due("(1, 11) shares no place with (1, 0)", z.told(1, 2), 165);
        due("(1, 1) behind both", z.told(2, 2), 45);
    }

    private static void toldIsAsThingsAre() {
        TripleTrap x = with(1, 0, 1, 0, 1, 1);
        due("the same at first", x.told(1, 2), 0);
        x.drop(0);
        due("alone then", x.told(0, 2), 165);
        due("the other", x.told(1, 2), 45);
        x.drop(0);
        due("the other alone", x.told(0, 2), 165);
    }

    private static void freedDue(TripleTrap x, int word, int move, int errors) {
        due("move that frees " + word, x.freed(word, 0), move);
        due("errors of " + word, x.freed(word, 1), errors);
    }

    private static void freedWithoutMoves() {
        TripleTrap x = with();
        freedDue(x, 0, NONE, NONE);
        freedDue(x, ALL, NONE, NONE);
        freedDue(x, 7, NONE, NONE);
        TripleTrap y = with(1, 0);
        freedDue(y, 0, 0, 0);
        freedDue(y, ALL, 0, 0);
        y.drop(0);
        freedDue(y, 0, NONE, NONE);
    }

    /** "REST of that has WEIGHT 3 or less". */
    private static void freedTakesThreeAndNotFour() {
        TripleTrap x = with(1, 0);
        freedDue(x, 3189, 0, 0);
        freedDue(x, 3189 ^ 1, 0, 1);
        freedDue(x, 3189 ^ 3, 0, 3);
        freedDue(x, 3189 ^ 7, 0, 7);
        freedDue(x, 15, NONE, NONE);
        freedDue(x, 3189 ^ 15, NONE, NONE);
    }

    private static void freedOfPlacesZeroToTen() {
        TripleTrap x = with(1, 0);
        freedDue(x, places(0, 5, 10), 0, places(0, 5, 10));
        freedDue(x, places(10), 0, places(10));
        freedDue(x, places(11), NONE, NONE);
        freedDue(x, places(22), NONE, NONE);
        freedDue(x, places(0, 10, 11), NONE, NONE);
    }

    /** (1, 12) brings 11 to 0 and 21 to 10, but 10 to 22 and 22 to 11; (18, 22) brings 22, 1 and 10 to 4, 17 and 18. */
    private static void freedWrapsAroundAndBack() {
        TripleTrap x = with(1, 12);
        freedDue(x, places(11, 16, 21), 0, places(11, 16, 21));
        freedDue(x, places(10), NONE, NONE);
        freedDue(x, places(22), NONE, NONE);
        TripleTrap y = with(18, 22);
        freedDue(y, places(22), 0, places(22));
        freedDue(y, places(1), NONE, NONE);
        freedDue(y, places(10), NONE, NONE);
        TripleTrap z = with(2, 3);
        freedDue(z, ALL ^ places(0, 10, 22), 0, places(0, 10, 22));
    }

    /** Places 1 to 9 come to 0 to 10 by (1, 0), (1, 1) and (1, 22), but not by (1, 12). */
    private static void theFirstMoveTells() {
        TripleTrap x = with(1, 12, 1, 0, 1, 1, 1, 22, 1, 0);
        freedDue(x, places(1, 5, 9), 1, places(1, 5, 9));
        freedDue(x, places(0, 22), 2, places(0, 22));
        freedDue(x, places(1, 11), 3, places(1, 11));
        freedDue(x, places(11), 0, places(11));
        freedDue(x, 0, 0, 0);
    }

    private static void freedIsAsThingsAre() {
        TripleTrap x = with(1, 12, 1, 0, 1, 1);
        x.drop(0);
        freedDue(x, places(1, 5, 9), 0, places(1, 5, 9));
        x.drop(0);
        freedDue(x, places(1, 5, 9), 0, places(1, 5, 9));
        freedDue(x, places(1, 5, 10), NONE, NONE);
        due("one more", x.move(1, 0), 1);
        freedDue(x, places(1, 5, 10), 1, places(1, 5, 10));
    }

    private static void openDue(TripleTrap x, int open, int least, int next, int greatest) {
        due("how many are open", x.open(0), open);
        due("the first that is open", x.open(1), 23 * 23 * least + 23 * next + greatest);
    }

    private static void openWithoutMoves() {
        openDue(with(), 1771, 0, 1, 2);
        TripleTrap x = with(1, 0);
        x.drop(0);
        openDue(x, 1771, 0, 1, 2);
    }

    /** "brings all three to PLACES 0 to 10": 10 is the last. */
    private static void coveredIsPlacesZeroToTen() {
        openDue(with(1, 0), 1771 - 165, 0, 1, 11);
        openDue(with(1, 0, 1, 0), 1771 - 165, 0, 1, 11);
        openDue(with(1, 11), 1771 - 165, 0, 1, 2);
    }

    /** (1, 1) brings 22 to 0 and 10 to 11; (1, 22) brings 0 to 22. */
    private static void coveredWrapsAround() {
        openDue(with(1, 1), 1771 - 165, 0, 1, 10);
        openDue(with(1, 22), 1771 - 165, 0, 1, 2);
        openDue(with(1, 0, 1, 1), 1771 - 165 - 45, 0, 1, 11);
    }

    /**
     * (1, 0) brings 0 to 10, (1, 6) 17 to 22 and 0 to 4, (2, 1) 11 to 16 and 0 to 4: all three share 0 to 4 and leave
     * no place out, so that 0, 5 and 11 are the first that are open.
     */
    private static void theFirstOpenByTheseNumbers() {
        openDue(with(1, 0, 1, 6), 1771 - 165 - 155, 0, 1, 11);
        openDue(with(1, 0, 1, 6, 2, 1), 1771 - 165 - 155 - 155, 0, 5, 11);
        openDue(with(2, 1, 1, 6), 1771 - 165 - 155, 0, 1, 5);
    }

    /** Eight of the same are one; eight unlike ones leave some open, as 8 times 165 is less than 1771. */
    private static void openOfEight() {
        openDue(with(1, 0, 1, 0, 1, 0, 1, 0, 1, 0, 1, 0, 1, 0, 1, 0), 1771 - 165, 0, 1, 11);
        TripleTrap x = withEight();
        int brought = 0;
        for (int i = 0; i < 8; i++) {
            brought += x.told(i, 2);
        }
        due("open and brought are all", x.open(0) + brought, 1771);
        CHECK.holds("some are always open", x.open(0) >= 1771 - 8 * 165 && x.open(1) >= 25);
        due("far on", with(16, 2, 18, 2, 3, 9, 3, 2, 2, 5, 6, 5, 1, 4, 4, 7).open(1), 23 * 14 + 16);
    }

    private static void openIsAsThingsAre() {
        TripleTrap x = with(1, 0, 1, 1);
        x.drop(0);
        openDue(x, 1771 - 165, 0, 1, 10);
        x.move(1, 0);
        openDue(x, 1771 - 165 - 45, 0, 1, 11);
        x.drop(0);
        openDue(x, 1771 - 165, 0, 1, 11);
    }
}
