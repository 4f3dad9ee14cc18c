/** The edges that the document names in its parts 1 and 2: the code; turned, trapped, wide. */
public final class CodeEdgesTest {
    private static final Check CHECK = new Check();
    private static final int ALL = 8388607, NONE = -6;

    public static void main(String[] args) {
        theLeastAndTheGreatestWord();
        theLeastAndTheGreatestMessage();
        restStartsAtPlaceEleven();
        restGoesOnAsLongAsThereIsSuchABit();
        nearestIsApartByThreeOrLess();
        fourErrorsLeadToAnotherWord();
        wordsAreApartBySevenAtLeast();
        messageStartsAtPlaceEleven();
        aroundAtItsEnds();
        turnedWrapsAround();
        trappedFromTheFirstToTheLastTurn();
        wayZeroTakesThreeAndNotFour();
        wayOneTakesTwoAndNotThree();
        wayTwoTakesTwoAndNotThree();
        waysChangePlacesSixteenAndSeventeenAlone();
        trappedTellsTheFirstTurn();
        errorsAreTurnedBack();
        somethingAlwaysTells();
        widePlaceMakesTheWeightEven();
        readUpToThreeAndNotFour();
        readCountsTheWidePlace();
        CHECK.end();
    }

    private static void due(String call, int got, int want) {
        CHECK.due(call, got, want);
    }

    private static TripleTrap fresh() {
        return new TripleTrap();
    }

    private static int places(int... places) {
        int word = 0;
        for (int p : places) {
            word |= 1 << p;
        }
        return word;
    }

    /** "told as a number, 0 to 8388607". */
    private static void theLeastAndTheGreatestWord() {
        TripleTrap x = fresh();
        due("rest(0)", x.rest(0), 0);
        due("rest(ALL)", x.rest(ALL), 0);
        due("of(0, 0)", x.of(0, 0), 0);
        due("of(1, 0)", x.of(1, 0), 1);
        due("of(1 << 22, 0)", x.of(1 << 22, 0), 1);
        due("of(ALL - 1, 0)", x.of(ALL - 1, 0), 22);
        due("of(ALL, 0)", x.of(ALL, 0), 23);
        due("of(0, 1)", x.of(0, 1), 0);
        due("of(ALL, 1)", x.of(ALL, 1), ALL);
        due("of(ALL - 1, 1)", x.of(ALL - 1, 1), ALL);
        due("turned(0, 22)", x.turned(0, 22), 0);
        due("turned(ALL, 22)", x.turned(ALL, 22), ALL);
        due("trapped(ALL, 2)", x.trapped(ALL, 2), 0);
        due("moved(0, 22, 22)", x.moved(0, 22, 22), 0);
        due("moved(ALL, 22, 22)", x.moved(ALL, 22, 22), ALL);
        due("chosen(0, 4, 0)", x.chosen(0, 4, 0), 0);
        due("chosen(ALL, 4, 0)", x.chosen(ALL, 4, 0), ALL);
    }

    /** "A MESSAGE is 0 to 4095". */
    private static void theLeastAndTheGreatestMessage() {
        TripleTrap x = fresh();
        due("made(0)", x.made(0), 0);
        due("made(1)", x.made(1), 3189);
        // 2048 is place 22 alone, and 1594 is what place 22 leaves
        due("made(2048)", x.made(2048), 4194304 + 1594);
        due("made(4095)", x.made(4095), ALL);
        due("wide(0)", x.wide(0), 0);
        due("wide(4095)", x.wide(4095), 16777215);
    }

    /** "as long as it has a bit 1 at place 11 or above": below that nothing is done. */
    private static void restStartsAtPlaceEleven() {
        TripleTrap x = fresh();
        for (int p = 0; p <= 10; p++) {
            due("rest of place " + p, x.rest(1 << p), 1 << p);
        }
        due("rest(2047)", x.rest(2047), 2047);
        due("rest(2048)", x.rest(2048), 3189 - 2048);
        due("rest(2048 + 1141)", x.rest(2048 + 1141), 0);
    }

    /** 4096 becomes 4096 ^ 6378 = 2282, which has place 11 still. */
    private static void restGoesOnAsLongAsThereIsSuchABit() {
        TripleTrap x = fresh();
        due("rest(4096)", x.rest(4096), 2282 ^ 3189);
        due("rest of place 22", x.rest(1 << 22), 1594);
        due("rest(KEY << 11)", x.rest(3189 << 11), 0);
        due("rest(KEY << 11, and 2047)", x.rest(3189 << 11 ^ 2047), 2047);
    }

    /** "just one of THE CODE that is APART from it by 3 or less": for each set of three places, two and one. */
    private static void nearestIsApartByThreeOrLess() {
        for (int p = 0; p < 23; p++) {
            for (int q = p; q < 23; q++) {
                TripleTrap x = fresh();
                for (int r = q; r < 23; r++) {
                    int errors = places(p, q, r);
                    int word = ALL ^ errors;
                    due("nearest of " + errors, x.of(errors, 1), 0);
                    due("apart from " + errors, x.of(errors, 2), Integer.bitCount(errors));
                    due("nearest of " + word, x.of(word, 1), ALL);
                    due("message of " + word, x.of(word, 3), 4095);
                }
            }
        }
        due("a word of the code is its own", fresh().of(3189, 1), 3189);
        due("and apart by 0", fresh().of(3189, 2), 0);
    }

    private static void fourErrorsLeadToAnotherWord() {
        TripleTrap x = fresh();
        due("nearest of 15", x.of(15, 1), 147503);
        due("15 is apart by", x.of(15, 2), 3);
        due("message of 15", x.of(15, 3), 72);
        int four = places(0, 2, 4, 5);
        due("nearest of four of KEY", x.of(four, 1), 3189);
        due("apart from four of KEY", x.of(four, 2), 3);
    }

    private static void wordsAreApartBySevenAtLeast() {
        TripleTrap x = fresh();
        for (int d = 1; d <= 6; d++) {
            due("around(0, " + d + ")", x.around(0, d), 0);
            due("around(3189, " + d + ")", x.around(3189, d), 0);
            due("count of weight " + d, x.count(10 + d), 0);
        }
        due("around(0, 7)", x.around(0, 7), 253);
        due("around(3189, 7)", x.around(3189, 7), 253);
        due("count of weight 7", x.count(17), 253);
    }

    /** "its bits from PLACE 11 on", and of NEAREST, not of the word that is given. */
    private static void messageStartsAtPlaceEleven() {
        TripleTrap x = fresh();
        due("message of KEY", x.of(3189, 3), 1);
        due("message of KEY, place 10 wrong", x.of(3189 ^ 1 << 10, 3), 1);
        due("message of KEY, place 11 wrong", x.of(3189 ^ 1 << 11, 3), 1);
        due("message of KEY, place 22 wrong", x.of(3189 ^ 1 << 22, 3), 1);
        due("message of place 22 and its rest", x.of(4194304 + 1594, 3), 2048);
        due("message of ALL", x.of(ALL, 3), 4095);
    }

    /** ALL is of the code, so that as many words are apart by d as by 23 less d. */
    private static void aroundAtItsEnds() {
        int[] words = {0, 1 << 22, places(0, 22), places(0, 11, 22)};
        for (int apart = 0; apart < words.length; apart++) {
            TripleTrap x = fresh();
            for (int d = 0; d <= 3; d++) {
                due("around(" + words[apart] + ", " + d + ")", x.around(words[apart], d), d == apart ? 1 : 0);
                due("around(" + words[apart] + ", 23 - " + d + ")", x.around(words[apart], 23 - d), d == apart ? 1 : 0);
            }
        }
        TripleTrap x = fresh();
        due("around(three, 4)", x.around(7, 4), 5);
        due("around(three, 19)", x.around(7, 19), 5);
    }

    /** "comes to PLACE p and n, added, less 23, if that is 23 or more". */
    private static void turnedWrapsAround() {
        TripleTrap x = fresh();
        due("22 and 0 are 22", x.turned(1 << 22, 0), 1 << 22);
        due("0 and 22 are 22", x.turned(1, 22), 1 << 22);
        due("22 and 1 are 0", x.turned(1 << 22, 1), 1);
        due("1 and 22 are 0", x.turned(2, 22), 1);
        due("22 and 22 are 21", x.turned(1 << 22, 22), 1 << 21);
        for (int n = 0; n < 23; n++) {
            TripleTrap y = fresh();
            for (int p = 0; p < 23; p++) {
                due(p + " turned by " + n, y.turned(1 << p, n), 1 << (p + n >= 23 ? p + n - 23 : p + n));
            }
        }
        due("KEY, turned by 12", x.turned(3189, 12), 3189 << 12 & ALL | 1);
    }

    private static void trappedDue(int word, int n, int way, int errors) {
        TripleTrap x = fresh();
        due("n of " + word, x.trapped(word, 0), n);
        due("way of " + word, x.trapped(word, 1), way);
        due("errors of " + word, x.trapped(word, 2), errors);
    }

    private static void trappedDue(int errors, int n, int way) {
        trappedDue(errors, n, way, errors);
        trappedDue(errors ^ 3189, n, way, errors);
        trappedDue(errors ^ ALL, n, way, errors);
    }

    /** "for n from 0 to 22": of each way one that is told at once, and one that no turn but the last tells. */
    private static void trappedFromTheFirstToTheLastTurn() {
        trappedDue(places(0, 5, 10), 0, 0);
        trappedDue(places(0, 10, 16), 0, 1);
        trappedDue(places(0, 10, 17), 0, 2);
        trappedDue(places(1, 6, 11), 22, 0);
        trappedDue(places(6, 11, 17), 22, 1);
        trappedDue(places(1, 6, 18), 22, 2);
    }

    /** A rest of four bits does not tell; three errors elsewhere leave the same rest, and tell later. */
    private static void wayZeroTakesThreeAndNotFour() {
        trappedDue(0, 0, 0);
        trappedDue(places(10), 0, 0);
        trappedDue(places(9, 10), 0, 0);
        trappedDue(places(8, 9, 10), 0, 0);
        trappedDue(places(0, 1, 2, 3), 11, 1, places(5, 14, 17));
    }

    private static void wayOneTakesTwoAndNotThree() {
        trappedDue(places(16), 0, 1);
        trappedDue(places(10, 16), 0, 1);
        trappedDue(places(9, 10, 16), 0, 1);
        trappedDue(places(0, 1, 2, 16), 3, 1, places(4, 13, 22));
    }

    private static void wayTwoTakesTwoAndNotThree() {
        trappedDue(places(17), 0, 2);
        trappedDue(places(10, 17), 0, 2);
        trappedDue(places(9, 10, 17), 0, 2);
        trappedDue(places(0, 1, 2, 17), 2, 1, places(3, 5, 14));
    }

    /** One error at 15 comes to 16 by a turn of 1, one at 18 to 0 by 5, one at 11 to 16 by 5. */
    private static void waysChangePlacesSixteenAndSeventeenAlone() {
        trappedDue(places(11), 5, 1);
        trappedDue(places(15), 1, 1);
        trappedDue(places(18), 5, 0);
        trappedDue(places(0, 16, 17), 7, 0);
    }

    /** "The first n, and of it the first way": a lesser n with a later way is ahead of a greater n with way 0. */
    private static void trappedTellsTheFirstTurn() {
        trappedDue(places(0), 0, 0);
        trappedDue(places(16), 0, 1);
        trappedDue(places(17), 0, 2);
        trappedDue(places(8, 16, 22), 1, 2);
    }

    private static void errorsAreTurnedBack() {
        trappedDue(places(22), 1, 0);
        trappedDue(places(21, 22), 2, 0);
        trappedDue(places(13, 21, 22), 3, 1);
        trappedDue(places(13, 19, 22), 4, 2);
    }

    /** "NONE: nothing tells" never comes: each rest has its turn. */
    private static void somethingAlwaysTells() {
        for (int r = 0; r < 2048; r++) {
            TripleTrap x = fresh();
            CHECK.holds("trapped(" + r + ", 0)", x.trapped(r, 0) >= 0);
            due("errors of " + r, x.trapped(r, 2), x.of(r, 1) ^ r);
        }
    }

    /** 3189 has weight 7, 5279 has weight 8. */
    private static void widePlaceMakesTheWeightEven() {
        TripleTrap x = fresh();
        due("wide(1)", x.wide(1), 8388608 + 3189);
        due("wide(2)", x.wide(2), 5279);
    }

    private static void readDue(int bits, int message, int apart) {
        TripleTrap x = fresh();
        due("message of " + bits, x.read(bits, 0), message);
        due("apart from " + bits, x.read(bits, 1), apart);
    }

    /** "if it is APART from it by 3 or less; else it is not READ (it is APART by 4 then)". */
    private static void readUpToThreeAndNotFour() {
        readDue(0, 0, 0);
        readDue(16777215, 4095, 0);
        readDue(1, 0, 1);
        readDue(3, 0, 2);
        readDue(7, 0, 3);
        readDue(15, NONE, NONE);
        readDue(5279 ^ places(5, 11, 22), 2, 3);
        readDue(16777215 ^ 7, 4095, 3);
        readDue(16777215 ^ 15, NONE, NONE);
    }

    private static void readCountsTheWidePlace() {
        int wide = 1 << 23;
        readDue(wide, 0, 1);
        readDue(wide | 1, 0, 2);
        readDue(wide | 3, 0, 3);
        readDue(wide | 7, NONE, NONE);
        readDue(wide | 3189, 1, 0);
        readDue(3189, 1, 1);
        readDue(3189 ^ 7, NONE, NONE);
        readDue(5279, 2, 0);
        readDue(wide | 5279, 2, 1);
    }
}
