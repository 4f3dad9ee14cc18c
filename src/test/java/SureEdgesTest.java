/** The edges that the document names in its part 4: how sure. */
public final class SureEdgesTest {
    private static final Check CHECK = new Check();
    private static final int ALL = 8388607, KEY = 3189;
    /** Four places of KEY: 0 is apart by these four, KEY by its other three, 6, 10 and 11. */
    private static final int FOUR = 1 | 1 << 2 | 1 << 4 | 1 << 5;

    public static void main(String[] args) {
        nineAtFirst();
        theLeastAndTheGreatest();
        theFirstAndTheLastPlace();
        sureAnswersWhatItWas();
        allPlacesAdded();
        weakAtFirst();
        weakOfAllAlike();
        weakOfTheLastPlaces();
        theLesserPlacesOfThoseAsSure();
        lessSureIsAheadOfALesserPlace();
        weakIsAsThingsAre();
        noWeakPlaceIsOneTry();
        triesGoUpToTheLast();
        fewerPlacesDoNotReachIt();
        bitsOfATryFollowWeak();
        lossOfAWordOfTheCodeIsZero();
        lossIsTheLeast();
        lossIsOfPlacesThatAreOther();
        theLeastTryOfThoseAlike();
        theFirstTryThatComesToIt();
        unlikeWordsAreCountedOnce();
        chosenIsAsThingsAre();
        CHECK.end();
    }

    private static void due(String call, int got, int want) {
        CHECK.due(call, got, want);
    }

    private static TripleTrap fresh() {
        return new TripleTrap();
    }

    /** An object of which places are as sure as told, a place and its number in turn. */
    private static TripleTrap with(int... numbers) {
        TripleTrap x = fresh();
        for (int i = 0; i < numbers.length; i += 2) {
            x.sure(numbers[i], numbers[i + 1]);
        }
        return x;
    }

    private static TripleTrap withAll(int v) {
        TripleTrap x = fresh();
        for (int p = 0; p < 23; p++) {
            x.sure(p, v);
        }
        return x;
    }

    private static void nineAtFirst() {
        TripleTrap x = fresh();
        for (int p = 0; p < 23; p++) {
            due("place " + p, x.count(40 + p), 9);
            due("it was", x.sure(p, 0), 9);
        }
    }

    /** "Each PLACE is SURE by 0 to 9". */
    private static void theLeastAndTheGreatest() {
        TripleTrap x = fresh();
        for (int v = 9; v >= 0; v--) {
            x.sure(11, v);
            due("sure by " + v, x.count(51), v);
        }
        due("from 0 to 9", x.sure(11, 9), 0);
        due("then", x.count(51), 9);
    }

    private static void theFirstAndTheLastPlace() {
        TripleTrap x = with(0, 1, 22, 2);
        due("place 0", x.count(40), 1);
        due("place 1 stays", x.count(41), 9);
        due("place 21 stays", x.count(61), 9);
        due("place 22", x.count(62), 2);
    }

    private static void sureAnswersWhatItWas() {
        TripleTrap x = fresh();
        due("9 at first", x.sure(5, 0), 9);
        due("0 then", x.sure(5, 0), 0);
        due("0 still", x.sure(5, 7), 0);
        due("7 then", x.sure(5, 7), 7);
        due("the next place is another", x.sure(6, 7), 9);
    }

    private static void allPlacesAdded() {
        due("nine each", fresh().count(1), 207);
        due("none at all", withAll(0).count(1), 0);
        due("one less", with(22, 8).count(1), 206);
        due("one alone", with(0, 0).count(1), 198);
    }

    private static void weakDue(TripleTrap x, int... places) {
        for (int j = 0; j < 4; j++) {
            due("weak " + j, x.weak(j), places[j]);
        }
    }

    private static void weakAtFirst() {
        weakDue(fresh(), 0, 1, 2, 3);
    }

    private static void weakOfAllAlike() {
        weakDue(withAll(0), 0, 1, 2, 3);
        weakDue(withAll(5), 0, 1, 2, 3);
    }

    private static void weakOfTheLastPlaces() {
        weakDue(with(22, 0, 21, 0, 20, 0, 19, 0), 19, 20, 21, 22);
        weakDue(with(22, 0, 21, 1, 20, 2, 19, 3), 22, 21, 20, 19);
        weakDue(with(22, 8), 22, 0, 1, 2);
    }

    /** Five are as sure, and the greatest place of them stays out. */
    private static void theLesserPlacesOfThoseAsSure() {
        weakDue(with(20, 4, 6, 4, 13, 4, 8, 4, 17, 4), 6, 8, 13, 17);
        weakDue(with(20, 4, 6, 4, 13, 4, 8, 4, 17, 4, 22, 3), 22, 6, 8, 13);
        weakDue(with(20, 4, 6, 4, 22, 3, 21, 3), 21, 22, 6, 20);
    }

    private static void lessSureIsAheadOfALesserPlace() {
        weakDue(with(0, 3, 1, 2, 2, 1, 3, 0), 3, 2, 1, 0);
        weakDue(with(0, 3, 7, 2, 9, 3, 11, 2), 7, 11, 0, 9);
    }

    private static void weakIsAsThingsAre() {
        TripleTrap x = with(10, 0);
        weakDue(x, 10, 0, 1, 2);
        x.sure(10, 9);
        weakDue(x, 0, 1, 2, 3);
        x.sure(0, 8);
        x.sure(22, 7);
        weakDue(x, 22, 0, 1, 2);
    }

    /** The errors count alone: whichever word of the code is changed in the same places, the same comes of it. */
    private static void chosenDue(TripleTrap x, int word, int t, int best, int loss, int tryNumber) {
        for (int code : new int[] {0, KEY, KEY << 11, ALL}) {
            due("chosen of " + (word ^ code) + " by " + t, x.chosen(word ^ code, t, 0), best ^ code);
            due("loss of " + (word ^ code) + " by " + t, x.chosen(word ^ code, t, 1), loss);
            due("try of " + (word ^ code) + " by " + t, x.chosen(word ^ code, t, 2), tryNumber);
        }
    }

    /** "2 to the power of t of them": with t of 0 it is what is nearest, however sure places are. */
    private static void noWeakPlaceIsOneTry() {
        TripleTrap x = with(0, 0, 2, 0, 4, 0, 5, 0);
        chosenDue(x, FOUR, 0, KEY, 27, 0);
        due("one try", x.chosen(FOUR, 0, 3), 1);
        chosenDue(x, FOUR, 1, 0, 0, 1);
    }

    /** The first t places are sure by 0 and the next three by 1, the others by 9. */
    private static TripleTrap withSteps(int t) {
        TripleTrap x = fresh();
        for (int p = 0; p < t + 3; p++) {
            x.sure(p, p < t ? 0 : 1);
        }
        return x;
    }

    /**
     * A word of the first t + 3 places comes to 0, with a loss of 3, if all t weak places of it are changed and by
     * no lesser try; any other word of the code has a place behind those, with a loss of 9 at least.
     */
    private static void triesGoUpToTheLast() {
        for (int t = 0; t <= 4; t++) {
            chosenDue(withSteps(t), (1 << t + 3) - 1, t, 0, 3, (1 << t) - 1);
        }
    }

    private static void fewerPlacesDoNotReachIt() {
        for (int t = 1; t <= 4; t++) {
            TripleTrap x = withSteps(t);
            int word = (1 << t + 3) - 1;
            CHECK.holds("0 is not reached by " + (t - 1), x.chosen(word, t - 1, 0) != 0);
            CHECK.holds("the loss is more by " + (t - 1), x.chosen(word, t - 1, 1) > 3);
            CHECK.holds("a try below the last by " + (t - 1), x.chosen(word, t - 1, 2) < 1 << t - 1);
        }
    }

    /** "the bit at the j-th of WEAK, j from 0 on, is changed, if bit j of k is 1": by WEAK, not by places. */
    private static void bitsOfATryFollowWeak() {
        TripleTrap x = with(0, 1, 1, 1, 2, 1, 3, 0, 4, 2, 5, 2, 6, 2);
        weakDue(x, 3, 0, 1, 2);
        int three = 1 << 4 | 1 << 5 | 1 << 6;
        chosenDue(x, three | 1 << 3, 4, 0, 6, 1);
        chosenDue(x, three | 1, 4, 0, 7, 2);
        chosenDue(x, three | 1 << 1, 4, 0, 7, 4);
        chosenDue(x, three | 1 << 2, 4, 0, 7, 8);
        chosenDue(x, three | 1 << 2 | 1 << 3, 4, 0, 7, 9);
    }

    private static void lossOfAWordOfTheCodeIsZero() {
        for (int t = 0; t <= 4; t++) {
            chosenDue(fresh(), 0, t, 0, 0, 0);
            chosenDue(fresh(), KEY, t, KEY, 0, 0);
            chosenDue(fresh(), ALL, t, ALL, 0, 0);
        }
        chosenDue(withAll(0), FOUR, 4, KEY, 0, 0);
    }

    /** KEY loses 27 by its other three places, and 0 the four: 26 is less than 27. */
    private static void lossIsTheLeast() {
        chosenDue(with(0, 0, 2, 8), FOUR, 1, 0, 26, 1);
        chosenDue(with(0, 0, 2, 8), FOUR, 4, 0, 26, 1);
        chosenDue(fresh(), FOUR, 4, KEY, 27, 0);
    }

    /** "SURE of all PLACES at which it is other than the WORD": the word as given, not as changed for the try. */
    private static void lossIsOfPlacesThatAreOther() {
        chosenDue(with(0, 1, 2, 2, 4, 3, 5, 4), FOUR, 1, 0, 10, 1);
        chosenDue(with(6, 7), KEY ^ 1 << 6, 0, KEY, 7, 0);
        chosenDue(with(22, 5), 1 << 22, 4, 0, 5, 0);
        chosenDue(with(0, 0), 1, 4, 0, 0, 0);
    }

    /** 0 and KEY lose 27 each: try 0 comes to KEY, try 1 to 0. */
    private static void theLeastTryOfThoseAlike() {
        TripleTrap x = with(0, 0);
        chosenDue(x, FOUR, 1, KEY, 27, 0);
        chosenDue(x, FOUR, 4, KEY, 27, 0);
        due("two words are tried", x.chosen(FOUR, 1, 3), 2);
    }

    /** Changing two or three of the four comes to 0 too, by greater tries. */
    private static void theFirstTryThatComesToIt() {
        chosenDue(with(0, 0, 2, 0, 4, 0, 5, 0), FOUR, 4, 0, 0, 1);
        chosenDue(with(20, 0, 0, 1, 2, 1, 4, 1, 5, 1), FOUR, 4, 0, 4, 2);
    }

    private static void unlikeWordsAreCountedOnce() {
        due("one try", fresh().chosen(7, 0, 3), 1);
        due("both come to 0", fresh().chosen(0, 1, 3), 1);
        due("four come to 0", fresh().chosen(0, 2, 3), 1);
        due("eight come to 0", fresh().chosen(0, 3, 3), 1);
        // the last try changes four places, and they lead elsewhere
        due("fifteen come to 0", fresh().chosen(0, 4, 3), 2);
        TripleTrap x = with(1, 0, 5, 0, 12, 0, 22, 0);
        due("twelve of sixteen", x.chosen(425, 4, 3), 12);
    }

    private static void chosenIsAsThingsAre() {
        TripleTrap x = with(0, 0, 2, 1, 4, 2, 5, 3);
        chosenDue(x, FOUR, 4, 0, 6, 1);
        x.sure(0, 9);
        x.sure(2, 9);
        x.sure(4, 9);
        chosenDue(x, FOUR, 4, KEY, 27, 0);
        x.sure(10, 0);
        chosenDue(x, FOUR, 4, KEY, 18, 0);
    }
}
