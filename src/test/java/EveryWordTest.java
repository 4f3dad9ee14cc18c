/** What the document says of all words, looked at for all of them. */
public final class EveryWordTest {
    private static final Check CHECK = new Check();
    private static final int MOST_CALLS = 512;
    private static TripleTrap trap = new TripleTrap();
    private static int calls = 0;

    public static void main(String[] args) {
        everyMessage();
        everyWord();
        everyRest();
        everyMove();
        CHECK.end();
    }

    /** Behind its 512th call an object may answer anything, so that a new one goes on. */
    private static TripleTrap trap() {
        if (calls == MOST_CALLS) {
            trap = new TripleTrap();
            calls = 0;
        }
        calls++;
        return trap;
    }

    private static void everyMessage() {
        Model model = new Model();
        for (int m = 0; m < 4096; m++) {
            int word = trap().made(m);
            CHECK.due("made " + m, word, Model.CODE[m]);
            CHECK.due("rest of made " + m, trap().rest(word), 0);
            CHECK.due("wide " + m, trap().wide(m), model.wide(m));
            CHECK.due("message of made " + m, trap().of(word, 3), m);
            CHECK.due("read of wide " + m, trap().read(trap().wide(m), 0), m);
        }
    }

    private static void everyWord() {
        for (int w = 0; w < 8388608; w++) {
            int nearest = trap().of(w, 1);
            int apart = Integer.bitCount(nearest ^ w);
            if (Model.restOf(nearest) != 0 || apart > 3 || trap().of(w, 2) != apart || trap().of(w, 3) != nearest >> 11) {
                CHECK.holds("nearest of " + w + " is " + nearest, false);
            }
            if (trap().rest(w) != Model.restOf(w)) {
                CHECK.holds("rest of " + w + " is " + trap().rest(w), false);
            }
        }
        CHECK.holds("every word was looked at", true);
    }

    /** Words of one rest differ by a word of the code, so one of each rest, and one more, stand for all. */
    private static void everyRest() {
        Model model = new Model();
        for (int r = 0; r < 2048; r++) {
            for (int w : new int[] {r, r ^ Model.CODE[(r * 7 + 1) % 4096]}) {
                for (int d = 0; d < 24; d++) {
                    CHECK.due("around " + w + ", " + d, trap().around(w, d), model.around(w, d));
                }
                for (int what = 0; what < 3; what++) {
                    CHECK.due("trapped " + w + ", " + what, trap().trapped(w, what), model.trapped(w, what));
                }
                CHECK.due("errors trapped of " + w, trap().trapped(w, 2), trap().of(w, 1) ^ w);
                for (int bits : new int[] {w, w + 8388608}) {
                    CHECK.due("read " + bits + ", 0", trap().read(bits, 0), model.read(bits, 0));
                    CHECK.due("read " + bits + ", 1", trap().read(bits, 1), model.read(bits, 1));
                }
            }
        }
    }

    private static void everyMove() {
        Model model = new Model();
        for (int a = 1; a <= 22; a++) {
            for (int b = 0; b <= 22; b++) {
                CHECK.due("keeps " + a + ", " + b, trap().keeps(a, b), model.keeps(a, b));
                for (int p = 0; p < 23; p++) {
                    CHECK.due("moved " + p + ", " + a + ", " + b, trap().moved(1 << p, a, b), 1 << (a * p + b) % 23);
                }
            }
        }
    }
}
