/** The edges that the document names in its part 5: images, and what is counted; and of a new object. */
public final class ImageEdgesTest {
    private static final Check CHECK = new Check();
    private static final int OUTSIDE = -2, STATE = -3, FULL = -4;

    public static void main(String[] args) {
        aNewObjectHasNothing();
        theFirstAndTheLastImage();
        imagesAreKeptEachByItself();
        imageInPlaceOfAnother();
        anImageIsNotChangedBehind();
        restoreOfNothingKept();
        theImageStays();
        restoreLeavesTheOtherImage();
        restoreBringsNoImageBack();
        emptyOverFull();
        fullOverEmpty();
        sureComesBack();
        countOfMoves();
        countOfImages();
        countOfWeights();
        countBetweenItsPieces();
        objectsAreApart();
        CHECK.end();
    }

    private static void due(String call, int got, int want) {
        CHECK.due(call, got, want);
    }

    private static TripleTrap fresh() {
        return new TripleTrap();
    }

    private static void same(String what, TripleTrap one, TripleTrap other) {
        CHECK.holds(what, State.picture(one).equals(State.picture(other)));
    }

    /** "No MOVES; all PLACES are SURE by 9; no IMAGE is kept." */
    private static void aNewObjectHasNothing() {
        TripleTrap x = fresh();
        due("moves", x.count(0), 0);
        due("sure", x.count(1), 207);
        for (int p = 0; p < 23; p++) {
            due("place " + p, x.count(40 + p), 9);
        }
        due("images", x.count(2), 0);
    }

    private static void theFirstAndTheLastImage() {
        for (int k = 0; k < 2; k++) {
            TripleTrap x = fresh();
            due("image(" + k + ")", x.image(k), 1);
            due("which are kept", x.count(2), 1 << k);
            due("restore(" + k + ")", x.restore(k), 1);
            due("restore of the other", x.restore(1 - k), STATE);
        }
    }

    private static void imagesAreKeptEachByItself() {
        TripleTrap x = fresh();
        x.sure(0, 1);
        x.image(0);
        x.sure(0, 2);
        x.image(1);
        x.sure(0, 3);
        due("restore(0)", x.restore(0), 1);
        due("as in 0", x.count(40), 1);
        due("restore(1)", x.restore(1), 1);
        due("as in 1", x.count(40), 2);
        due("restore(0) again", x.restore(0), 1);
        due("as in 0 again", x.count(40), 1);
    }

    /** "in place of what was kept there". */
    private static void imageInPlaceOfAnother() {
        TripleTrap x = fresh();
        State.tell(x, 8);
        x.sure(22, 1);
        x.image(1);
        x.drop(7);
        x.drop(0);
        x.sure(22, 9);
        x.sure(0, 2);
        due("image(1) again", x.image(1), 1);
        due("one is kept", x.count(2), 2);
        TripleTrap now = fresh();
        State.tell(now, 8);
        now.drop(7);
        now.drop(0);
        now.sure(0, 2);
        now.image(1);
        x.move(1, 1);
        x.restore(1);
        same("what was kept last comes back", x, now);
    }

    private static void anImageIsNotChangedBehind() {
        TripleTrap x = fresh();
        State.tell(x, 3);
        x.image(0);
        x.drop(0);
        x.drop(0);
        x.move(18, 22);
        x.sure(5, 5);
        x.restore(0);
        TripleTrap y = fresh();
        State.tell(y, 3);
        y.image(0);
        same("as it was when it was kept", x, y);
    }

    private static void restoreOfNothingKept() {
        TripleTrap x = fresh();
        State.tell(x, 2);
        x.sure(1, 1);
        due("restore(0)", x.restore(0), STATE);
        due("restore(1)", x.restore(1), STATE);
        due("moves stay", x.count(0), 2);
        due("sure stays", x.count(41), 1);
        due("no image is kept", x.count(2), 0);
    }

    private static void theImageStays() {
        TripleTrap x = fresh();
        State.tell(x, 1);
        x.image(1);
        for (int round = 0; round < 3; round++) {
            x.drop(0);
            x.sure(round, 0);
            due("restore(1)", x.restore(1), 1);
            due("moves", x.count(0), 1);
            due("sure", x.count(1), 207);
            due("which are kept", x.count(2), 2);
        }
        x.move(2, 2);
        x.sure(9, 0);
        x.restore(1);
        due("what came behind a restore is gone by the next", x.count(0) * 1000 + x.count(1), 1207);
    }

    private static void restoreLeavesTheOtherImage() {
        TripleTrap x = fresh();
        x.image(0);
        State.tell(x, 4);
        x.image(1);
        x.restore(0);
        due("none", x.count(0), 0);
        x.restore(1);
        due("four", x.count(0), 4);
        due("both are kept", x.count(2), 3);
    }

    /** "All but IMAGES": an image kept behind another is still there when that one is restored. */
    private static void restoreBringsNoImageBack() {
        TripleTrap x = fresh();
        x.image(0);
        x.image(1);
        due("both", x.count(2), 3);
        x.restore(0);
        due("both still", x.count(2), 3);
        due("restore(1)", x.restore(1), 1);
    }

    private static void emptyOverFull() {
        TripleTrap x = fresh();
        x.image(0);
        State.tell(x, 8);
        for (int p = 0; p < 23; p++) {
            x.sure(p, 0);
        }
        due("restore(0)", x.restore(0), 1);
        TripleTrap y = fresh();
        y.image(0);
        due("room for a first move", x.move(18, 22), 0);
        due("and for another object's", y.move(18, 22), 0);
        same("as a new one", x, y);
    }

    private static void fullOverEmpty() {
        TripleTrap x = fresh();
        State.tell(x, 8);
        x.image(0);
        for (int i = 0; i < 8; i++) {
            x.drop(0);
        }
        due("none are left", x.count(0), 0);
        due("restore(0)", x.restore(0), 1);
        due("there are 8 again", x.move(1, 0), FULL);
        TripleTrap y = fresh();
        State.tell(y, 8);
        y.image(0);
        same("as it was", x, y);
    }

    private static void sureComesBack() {
        TripleTrap x = fresh();
        x.sure(0, 0);
        x.sure(22, 1);
        x.image(1);
        x.sure(0, 9);
        x.sure(22, 9);
        x.sure(11, 0);
        x.restore(1);
        due("place 0", x.count(40), 0);
        due("place 11", x.count(51), 9);
        due("place 22", x.count(62), 1);
        due("weak", x.weak(1), 22);
    }

    private static void countOfMoves() {
        TripleTrap x = fresh();
        for (int i = 0; i < 8; i++) {
            due("moves", x.count(0), i);
            x.move(1, 22);
        }
        due("moves", x.count(0), 8);
        x.move(1, 22);
        due("moves, a ninth refused", x.count(0), 8);
    }

    /** "which IMAGES are kept, a set: bits 0, 1". */
    private static void countOfImages() {
        TripleTrap x = fresh();
        due("none", x.count(2), 0);
        x.image(1);
        due("1 alone", x.count(2), 2);
        x.image(1);
        due("1 again", x.count(2), 2);
        x.image(0);
        due("both", x.count(2), 3);
        TripleTrap y = fresh();
        y.image(0);
        due("0 alone", y.count(2), 1);
    }

    /** "10 to 33": weights 0 to 23, which do not depend on the state. */
    private static void countOfWeights() {
        for (State state : State.values()) {
            TripleTrap x = state.make();
            int all = 0;
            for (int what = 10; what <= 33; what++) {
                all += x.count(what);
            }
            due("all words", all, 4096);
            due("weight 0", x.count(10), 1);
            due("weight 1", x.count(11), 0);
            due("weight 11", x.count(21), 1288);
            due("weight 12", x.count(22), 1288);
            due("weight 22", x.count(32), 0);
            due("weight 23", x.count(33), 1);
        }
    }

    private static void countBetweenItsPieces() {
        TripleTrap x = fresh();
        for (int what = 3; what <= 9; what++) {
            due("count(" + what + ")", x.count(what), OUTSIDE);
        }
        for (int what = 34; what <= 39; what++) {
            due("count(" + what + ")", x.count(what), OUTSIDE);
        }
        for (int what = 63; what <= 90; what++) {
            due("count(" + what + ")", x.count(what), OUTSIDE);
        }
        for (int what = -70; what <= -1; what++) {
            due("count(" + what + ")", x.count(what), OUTSIDE);
        }
    }

    private static void objectsAreApart() {
        TripleTrap x = State.EMPTY.make();
        TripleTrap y = State.FULL.make();
        y.image(0);
        y.sure(0, 0);
        y.chosen(15, 4, 0);
        same("another object changes nothing", x, fresh());
    }
}
