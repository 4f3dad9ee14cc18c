/** What the document says of all words, looked at for all of them. */
public final class EveryWordTest {
    private static final Check CHECK = new Check();
    private static final TripleTrap TRAP = new TripleTrap();

    public static void main(String[] args) {
        everyMessage();
        everyWord();
        everyRest();
        everyMove();
        CHECK.end();
    }

    private static void everyMessage() {
        Model model = new Model();
        for (int m = 0; m < 4096; m++) {
            int word = TRAP.made(m);
            CHECK.due("made " + m, word, Model.CODE[m]);
            CHECK.due("rest of made " + m, TRAP.rest(word), 0);
            CHECK.due("wide " + m, TRAP.wide(m), model.wide(m));
            CHECK.due("message of made " + m, TRAP.of(word, 3), m);
            CHECK.due("read of wide " + m, TRAP.read(TRAP.wide(m), 0), m);
        }
    }

    private static void everyWord() {
        for (int w = 0; w < 8388608; w++) {
            int nearest = TRAP.of(w, 1);
            int apart = Integer.bitCount(nearest ^ w);
            if (Model.restOf(nearest) != 0 || apart > 3 || TRAP.of(w, 2) != apart || TRAP.of(w, 3) != nearest >> 11) {
                CHECK.holds("nearest of " + w + " is " + nearest, false);
            }
            if (TRAP.rest(w) != Model.restOf(w)) {
                CHECK.holds("rest of " + w + " is " + TRAP.rest(w), false);
            }
        }
        CHECK.holds("every word was looked at", true);
    }

    /** Words of one rest differ by a word of the code, so one of each rest, and one more, stand for all. */
    private static void everyRest() {
        Model model = new Model();
        for (int r = 0; r < 2048; r++) {
            for (int w : new int[] {r, r ^ Model.CODE[(r * 7 + 1) % 4096]}) {
                for (int d = 0; d < 24; d++) {
                    CHECK.due("around " + w + ", " + d, TRAP.around(w, d), model.around(w, d));
                }
                for (int what = 0; what < 3; what++) {
                    CHECK.due("trapped " + w + ", " + what, TRAP.trapped(w, what), model.trapped(w, what));
                }
                CHECK.due("errors trapped of " + w, TRAP.trapped(w, 2), TRAP.of(w, 1) ^ w);
                for (int bits : new int[] {w, w + 8388608}) {
                    CHECK.due("read " + bits + ", 0", TRAP.read(bits, 0), model.read(bits, 0));
                    CHECK.due("read " + bits + ", 1", TRAP.read(bits, 1), model.read(bits, 1));
                }
            }
        }
    }

    private static void everyMove() {
        Model model = new Model();
        for (int a = 1; a <= 22; a++) {
            for (int b = 0; b <= 22; b++) {
                CHECK.due("keeps " + a + ", " + b, TRAP.keeps(a, b), model.keeps(a, b));
                for (int p = 0; p < 23; p++) {
                    CHECK.due("moved " + p + ", " + a + ", " + b, TRAP.moved(1 << p, a, b), 1 << (a * p + b) % 23);
                }
            }
        }
    }
}
