import java.util.Random;

/** Long mixed runs of calls, each answer held against the model; the seeds are fixed. */
public final class ModelRunsTest {
    private static final int RUNS = 250;
    private static final int CALLS = 512;
    private static final int[] RESIDUES = {1, 2, 3, 4, 6, 8, 9, 12, 13, 16, 18};
    private static final int[] FAR = {Integer.MIN_VALUE, -23, -2, -1, 64, 8388608, 16777216, Integer.MAX_VALUE};

    private final Random dice;
    private final TripleTrap real = new TripleTrap();
    private final Model model = new Model();
    private final Check check;
    private final String name;

    private ModelRunsTest(int run, Check check) {
        this.dice = new Random(run);
        this.check = check;
        this.name = "run " + run + " ";
    }

    public static void main(String[] args) {
        Check check = new Check();
        for (int run = 0; run < RUNS && check.wrong() == 0; run++) {
            ModelRunsTest it = new ModelRunsTest(run, check);
            for (int i = 0; i < CALLS && check.wrong() == 0; i++) {
                it.step();
            }
        }
        check.end();
    }

    /** Mostly a number that is asked for, now and then one just beyond it or far off. */
    private int some(int least, int most) {
        int kind = dice.nextInt(40);
        if (kind == 0) return least - 1;
        if (kind == 1) return most + 1;
        if (kind == 2) return FAR[dice.nextInt(FAR.length)];
        return least + dice.nextInt(most - least + 1);
    }

    private int word() {
        int kind = dice.nextInt(4);
        if (kind == 0) return some(0, 8388607);
        int w = kind == 1 ? 0 : Model.CODE[dice.nextInt(4096)];
        for (int i = dice.nextInt(6); i > 0; i--) {
            w ^= 1 << dice.nextInt(23);
        }
        return w;
    }

    private int factor() {
        return dice.nextInt(3) == 0 ? some(1, 22) : RESIDUES[dice.nextInt(RESIDUES.length)];
    }

    private int wideBits() {
        int w = word();
        if (w < 0 || w > 8388607) return w;
        return dice.nextInt(20) == 0 ? some(0, 16777215) : w + 8388608 * dice.nextInt(2);
    }

    private int countable() {
        int kind = dice.nextInt(4);
        return kind == 0 ? some(0, 2) : kind == 1 ? some(10, 33) : kind == 2 ? some(40, 62) : some(0, 62);
    }

    private void due(String call, int got, int want, int... args) {
        check.due(name + call + java.util.Arrays.toString(args), got, want);
    }

    private void step() {
        int w = word();
        switch (dice.nextInt(26)) {
            case 0: { int m = some(0, 4095); due("made", real.made(m), model.made(m), m); break; }
            case 1: due("rest", real.rest(w), model.rest(w), w); break;
            case 2: { int x = some(0, 3); due("of", real.of(w, x), model.of(w, x), w, x); break; }
            case 3: { int d = some(0, 23); due("around", real.around(w, d), model.around(w, d), w, d); break; }
            case 4: { int n = some(0, 22); due("turned", real.turned(w, n), model.turned(w, n), w, n); break; }
            case 5: { int x = some(0, 2); due("trapped", real.trapped(w, x), model.trapped(w, x), w, x); break; }
            case 6: { int m = some(0, 4095); due("wide", real.wide(m), model.wide(m), m); break; }
            case 7: { int v = wideBits(), x = some(0, 1); due("read", real.read(v, x), model.read(v, x), v, x); break; }
            case 8: { int a = factor(), b = some(0, 22); due("keeps", real.keeps(a, b), model.keeps(a, b), a, b); break; }
            case 9: { int a = factor(), b = some(0, 22);
                due("moved", real.moved(w, a, b), model.moved(w, a, b), w, a, b); break; }
            case 10: case 11: case 12: { int a = factor(), b = some(0, 22);
                due("move", real.move(a, b), model.move(a, b), a, b); break; }
            case 13: { int i = some(0, 7); due("drop", real.drop(i), model.drop(i), i); break; }
            case 14: case 15: { int i = some(0, 7), x = some(0, 2);
                due("told", real.told(i, x), model.told(i, x), i, x); break; }
            case 16: { int x = some(0, 1); due("freed", real.freed(w, x), model.freed(w, x), w, x); break; }
            case 17: { int x = some(0, 1); due("open", real.open(x), model.open(x), x); break; }
            case 18: case 19: { int p = some(0, 22), v = some(0, 9);
                due("sure", real.sure(p, v), model.sure(p, v), p, v); break; }
            case 20: { int j = some(0, 3); due("weak", real.weak(j), model.weak(j), j); break; }
            case 21: case 22: { int t = some(0, 4), x = some(0, 3);
                due("chosen", real.chosen(w, t, x), model.chosen(w, t, x), w, t, x); break; }
            case 23: { int k = some(0, 1); due("image", real.image(k), model.image(k), k); break; }
            case 24: { int k = some(0, 1); due("restore", real.restore(k), model.restore(k), k); break; }
            default: { int x = countable(); due("count", real.count(x), model.count(x), x); break; }
        }
    }
}
