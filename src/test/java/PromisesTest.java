/** Each promise by answers worked out from the document: ordinary ones, the edges, and wrong inputs. */
public final class PromisesTest {
    private static final Check CHECK = new Check();
    private static final int LOW = Integer.MIN_VALUE, HIGH = Integer.MAX_VALUE;
    private static final int ALL = 8388607;
    private static final int OUTSIDE = -2;

    public static void main(String[] args) {
        newObject();
        made();
        rest();
        of();
        around();
        turned();
        trapped();
        wide();
        read();
        keeps();
        moved();
        move();
        drop();
        told();
        freed();
        open();
        sure();
        weak();
        chosen();
        image();
        restore();
        count();
        refusedChangesNothing();
        objectsAreApart();
        CHECK.end();
    }

    private static void due(String call, int got, int want) {
        CHECK.due(call, got, want);
    }

    private static TripleTrap fresh() {
        return new TripleTrap();
    }

    private static void newObject() {
        TripleTrap x = fresh();
        due("1 moves", x.count(0), 0);
        due("1 sure in all", x.count(1), 9 * 23);
        for (int p = 0; p < 23; p++) {
            due("1 place " + p, x.count(40 + p), 9);
        }
        due("1 images", x.count(2), 0);
        due("1 restore(0)", x.restore(0), TripleTrap.STATE);
        due("1 restore(1)", x.restore(1), TripleTrap.STATE);
    }

    private static void made() {
        TripleTrap x = fresh();
        due("2 made(0)", x.made(0), 0);
        due("2 made(1)", x.made(1), 3189);
        due("2 made(4095)", x.made(4095), ALL);
        for (int wrong : new int[] {-1, 4096, LOW, HIGH}) {
            due("2 made(" + wrong + ")", x.made(wrong), OUTSIDE);
        }
    }

    private static void rest() {
        TripleTrap x = fresh();
        due("3 rest(0)", x.rest(0), 0);
        due("3 rest(2047)", x.rest(2047), 2047);
        due("3 rest(2048)", x.rest(2048), 3189 ^ 2048);
        due("3 rest(4096)", x.rest(4096), 4096 ^ 6378 ^ 3189);
        due("3 rest(ALL)", x.rest(ALL), 0);
        for (int wrong : new int[] {-1, ALL + 1, LOW, HIGH}) {
            due("3 rest(" + wrong + ")", x.rest(wrong), OUTSIDE);
        }
    }

    private static void of() {
        TripleTrap x = fresh();
        due("4 of(ALL, 0)", x.of(ALL, 0), 23);
        due("4 of(0, 0)", x.of(0, 0), 0);
        int word = 3189 ^ 1 << 22 ^ 1 << 11 ^ 1;
        due("4 of(word, 1)", x.of(word, 1), 3189);
        due("4 of(word, 2)", x.of(word, 2), 3);
        due("4 of(word, 3)", x.of(word, 3), 1);
        due("4 of(3189, 2)", x.of(3189, 2), 0);
        for (int what = 0; what < 4; what++) {
            due("4 of(-1, " + what + ")", x.of(-1, what), OUTSIDE);
            due("4 of(ALL + 1, " + what + ")", x.of(ALL + 1, what), OUTSIDE);
        }
        for (int what : new int[] {-1, 4, LOW, HIGH}) {
            due("4 of(0, " + what + ")", x.of(0, what), OUTSIDE);
        }
    }

    private static void around() {
        TripleTrap x = fresh();
        for (int word : new int[] {0, 1, 3, 7, ALL, 3189, 3189 ^ 5}) {
            int all = 0;
            for (int d = 0; d <= 23; d++) {
                all += x.around(word, d);
            }
            due("5 around(" + word + ", all)", all, 4096);
        }
        due("5 around(0, 0)", x.around(0, 0), 1);
        due("5 around(0, 1)", x.around(0, 1), 0);
        due("5 around(0, 23)", x.around(0, 23), 1);
        due("5 around(1, 1)", x.around(1, 1), 1);
        due("5 around(1, 22)", x.around(1, 22), 1);
        due("5 around(7, 3)", x.around(7, 3), 1);
        due("5 around(7, 4)", x.around(7, 4), 5);
        due("5 around(-1, 0)", x.around(-1, 0), OUTSIDE);
        due("5 around(ALL + 1, 0)", x.around(ALL + 1, 0), OUTSIDE);
        for (int d : new int[] {-1, 24, LOW, HIGH}) {
            due("5 around(0, " + d + ")", x.around(0, d), OUTSIDE);
        }
    }

    private static void turned() {
        TripleTrap x = fresh();
        due("6 turned(5, 0)", x.turned(5, 0), 5);
        due("6 turned(5, 20)", x.turned(5, 20), 1 << 20 | 1 << 22);
        due("6 turned(5, 21)", x.turned(5, 21), 1 << 21 | 1);
        due("6 turned(5, 22)", x.turned(5, 22), 1 << 22 | 1 << 1);
        due("6 turned(ALL, 22)", x.turned(ALL, 22), ALL);
        due("6 turned(-1, 0)", x.turned(-1, 0), OUTSIDE);
        due("6 turned(ALL + 1, 0)", x.turned(ALL + 1, 0), OUTSIDE);
        for (int n : new int[] {-1, 23, LOW, HIGH}) {
            due("6 turned(1, " + n + ")", x.turned(1, n), OUTSIDE);
        }
    }

    private static void trappedDue(TripleTrap x, int word, int n, int way, int errors) {
        due("7 trapped(" + word + ", 0)", x.trapped(word, 0), n);
        due("7 trapped(" + word + ", 1)", x.trapped(word, 1), way);
        due("7 trapped(" + word + ", 2)", x.trapped(word, 2), errors);
    }

    private static void trapped() {
        TripleTrap x = fresh();
        trappedDue(x, 0, 0, 0, 0);
        trappedDue(x, 3189 ^ 7, 0, 0, 7);
        trappedDue(x, 1 << 16, 0, 1, 1 << 16);
        trappedDue(x, 3189 ^ 1 << 17 ^ 3, 0, 2, 1 << 17 | 3);
        trappedDue(x, 1 << 16 | 3, 0, 1, 1 << 16 | 3);
        trappedDue(x, 1 << 22, 1, 0, 1 << 22);
        trappedDue(x, 4260864, 7, 2, 4260864);
        due("7 trapped(-1, 0)", x.trapped(-1, 0), OUTSIDE);
        due("7 trapped(ALL + 1, 2)", x.trapped(ALL + 1, 2), OUTSIDE);
        for (int what : new int[] {-1, 3, LOW, HIGH}) {
            due("7 trapped(0, " + what + ")", x.trapped(0, what), OUTSIDE);
        }
    }

    private static void wide() {
        TripleTrap x = fresh();
        due("8 wide(0)", x.wide(0), 0);
        due("8 wide(1)", x.wide(1), 8388608 + 3189);
        due("8 wide(4095)", x.wide(4095), 16777215);
        for (int m = 0; m < 4096; m++) {
            due("8 weight of wide(" + m + ")", Integer.bitCount(fresh().wide(m)) % 4, 0);
        }
        for (int wrong : new int[] {-1, 4096, LOW, HIGH}) {
            due("8 wide(" + wrong + ")", x.wide(wrong), OUTSIDE);
        }
    }

    private static void read() {
        TripleTrap x = fresh();
        due("9 read(0, 0)", x.read(0, 0), 0);
        due("9 read(0, 1)", x.read(0, 1), 0);
        due("9 read(3189, 0)", x.read(3189, 0), 1);
        due("9 read(3189, 1)", x.read(3189, 1), 1);
        int three = x.wide(777) ^ 1 << 23 ^ 1 << 22 ^ 1;
        due("9 read(three wrong, 0)", x.read(three, 0), 777);
        due("9 read(three wrong, 1)", x.read(three, 1), 3);
        due("9 read(four wrong, 0)", x.read(three ^ 2, 0), TripleTrap.NONE);
        due("9 read(four wrong, 1)", x.read(three ^ 2, 1), TripleTrap.NONE);
        due("9 read(16777215, 1)", x.read(16777215, 1), 0);
        for (int bits : new int[] {-1, 16777216, LOW, HIGH}) {
            due("9 read(" + bits + ", 0)", x.read(bits, 0), OUTSIDE);
        }
        for (int what : new int[] {-1, 2, LOW, HIGH}) {
            due("9 read(0, " + what + ")", x.read(0, what), OUTSIDE);
            due("9 read(15, " + what + ")", x.read(15, what), OUTSIDE);
        }
    }

    private static void wrongMoves(String name, java.util.function.IntBinaryOperator call) {
        for (int wrong : new int[] {-1, 23, LOW, HIGH}) {
            due(name + "(" + wrong + ", 0)", call.applyAsInt(wrong, 0), OUTSIDE);
            due(name + "(1, " + wrong + ")", call.applyAsInt(1, wrong), OUTSIDE);
            due(name + "(5, " + wrong + ")", call.applyAsInt(5, wrong), OUTSIDE);
        }
        due(name + "(0, 0)", call.applyAsInt(0, 0), OUTSIDE);
    }

    private static void keeps() {
        for (int a = 1; a <= 22; a++) {
            TripleTrap x = fresh();
            boolean square = false;
            for (int s = 1; s <= 22; s++) {
                square |= s * s % 23 == a;
            }
            for (int b = 0; b <= 22; b++) {
                due("10 keeps(" + a + ", " + b + ")", x.keeps(a, b), square ? 1 : 0);
            }
        }
        wrongMoves("10 keeps", fresh()::keeps);
    }

    private static void moved() {
        TripleTrap x = fresh();
        due("11 moved(3189, 1, 0)", x.moved(3189, 1, 0), 3189);
        due("11 moved(6, 5, 20)", x.moved(6, 5, 20), 1 << 2 | 1 << 7);
        due("11 moved(1 << 22, 22, 22)", x.moved(1 << 22, 22, 22), 1);
        due("11 moved(ALL, 7, 13)", x.moved(ALL, 7, 13), ALL);
        for (int wrong : new int[] {-1, ALL + 1, LOW, HIGH}) {
            due("11 moved(" + wrong + ", 1, 0)", x.moved(wrong, 1, 0), OUTSIDE);
        }
        wrongMoves("11 moved", (a, b) -> x.moved(1, a, b));
    }

    private static TripleTrap withEight() {
        TripleTrap x = fresh();
        int[] factors = {1, 2, 3, 4, 6, 8, 9, 12};
        for (int i = 0; i < 8; i++) {
            due("12 move(" + factors[i] + ", " + i + ")", x.move(factors[i], i), i);
        }
        return x;
    }

    private static void move() {
        TripleTrap x = withEight();
        due("12 a ninth", x.move(1, 0), TripleTrap.FULL);
        due("12 NO comes ahead of FULL", x.move(5, 0), TripleTrap.NO);
        due("12 OUTSIDE comes ahead of FULL", x.move(1, 23), OUTSIDE);
        wrongMoves("12 move", x::move);
        due("12 there are 8", x.count(0), 8);
        TripleTrap y = fresh();
        due("12 move(22, 22)", y.move(22, 22), TripleTrap.NO);
        wrongMoves("12 move", y::move);
        due("12 move(18, 22)", y.move(18, 22), 0);
        due("12 the same once more", y.move(18, 22), 1);
        due("12 there are 2", y.count(0), 2);
    }

    private static void drop() {
        TripleTrap x = withEight();
        due("13 drop(8)", x.drop(8), TripleTrap.UNKNOWN);
        due("13 drop(-1)", x.drop(-1), TripleTrap.UNKNOWN);
        due("13 drop(LOW)", x.drop(LOW), TripleTrap.UNKNOWN);
        due("13 drop(HIGH)", x.drop(HIGH), TripleTrap.UNKNOWN);
        due("13 drop(3)", x.drop(3), 7);
        int[] left = {1, 2, 3, 6, 8, 9, 12};
        for (int i = 0; i < 7; i++) {
            due("13 a of " + i, x.told(i, 0), left[i]);
            due("13 b of " + i, x.told(i, 1), i < 3 ? i : i + 1);
        }
        due("13 drop(7)", x.drop(7), TripleTrap.UNKNOWN);
        due("13 drop(6)", x.drop(6), 6);
        due("13 drop(0)", x.drop(0), 5);
        due("13 a of 0", x.told(0, 0), 2);
        due("13 a move behind", x.move(1, 22), 5);
        due("13 its b", x.told(5, 1), 22);
    }

    private static void told() {
        TripleTrap x = fresh();
        due("14 told(0, 9)", x.told(0, 9), TripleTrap.UNKNOWN);
        x.move(1, 0);
        x.move(1, 0);
        x.move(1, 1);
        x.move(1, 22);
        due("14 told(2, 0)", x.told(2, 0), 1);
        due("14 told(3, 1)", x.told(3, 1), 22);
        due("14 told(0, 2)", x.told(0, 2), 165);
        due("14 the same brings nothing new", x.told(1, 2), 0);
        // (1, 1) brings places 22 and 0 to 9: new are the triples with 22, and two of ten
        due("14 told(2, 2)", x.told(2, 2), 45);
        due("14 told(3, 2)", x.told(3, 2), 45);
        for (int what : new int[] {-1, 3, LOW, HIGH}) {
            due("14 told(0, " + what + ")", x.told(0, what), OUTSIDE);
            due("14 UNKNOWN comes first, " + what, x.told(4, what), TripleTrap.UNKNOWN);
        }
        due("14 told(-1, 0)", x.told(-1, 0), TripleTrap.UNKNOWN);
        due("14 told(HIGH, 2)", x.told(HIGH, 2), TripleTrap.UNKNOWN);
    }

    private static void freed() {
        TripleTrap x = fresh();
        due("15 no moves", x.freed(0, 0), TripleTrap.NONE);
        x.move(1, 0);
        x.move(1, 12);
        x.move(1, 0);
        due("15 freed(3189 ^ 7, 0)", x.freed(3189 ^ 7, 0), 0);
        due("15 freed(3189 ^ 7, 1)", x.freed(3189 ^ 7, 1), 7);
        int behind = 1 << 11 | 1 << 15 | 1 << 21;
        due("15 freed(behind, 0)", x.freed(behind, 0), 1);
        due("15 freed(behind, 1)", x.freed(behind, 1), behind);
        due("15 freed(behind ^ 3189, 1)", x.freed(behind ^ 3189, 1), behind);
        int wideApart = 1 | 1 << 10 | 1 << 22;
        due("15 freed(wideApart, 0)", x.freed(wideApart, 0), TripleTrap.NONE);
        due("15 freed(wideApart, 1)", x.freed(wideApart, 1), TripleTrap.NONE);
        // 0, 10 and 22 come to 3, 0 and 1
        x.move(2, 3);
        due("15 freed(wideApart, 0) then", x.freed(wideApart, 0), 3);
        due("15 freed(wideApart, 1) then", x.freed(wideApart, 1), wideApart);
        for (int wrong : new int[] {-1, ALL + 1, LOW, HIGH}) {
            due("15 freed(" + wrong + ", 0)", x.freed(wrong, 0), OUTSIDE);
        }
        for (int what : new int[] {-1, 2, LOW, HIGH}) {
            due("15 freed(0, " + what + ")", x.freed(0, what), OUTSIDE);
            due("15 freed(wideApart, " + what + ")", x.freed(wideApart, what), OUTSIDE);
        }
    }

    private static void open() {
        TripleTrap x = fresh();
        due("16 open(0)", x.open(0), 1771);
        due("16 open(1)", x.open(1), 25);
        x.move(1, 0);
        due("16 open(0) of one", x.open(0), 1771 - 165);
        due("16 open(1) of one", x.open(1), 23 + 11);
        x.move(1, 1);
        due("16 open(0) of two", x.open(0), 1771 - 165 - 45);
        x.drop(0);
        due("16 open(1) of the second", x.open(1), 23 + 10);
        for (int what : new int[] {-1, 2, LOW, HIGH}) {
            due("16 open(" + what + ")", x.open(what), OUTSIDE);
        }
    }

    private static void sure() {
        TripleTrap x = fresh();
        due("17 sure(0, 0)", x.sure(0, 0), 9);
        due("17 sure(22, 4)", x.sure(22, 4), 9);
        due("17 sure(22, 9)", x.sure(22, 9), 4);
        due("17 sure(0, 1)", x.sure(0, 1), 0);
        for (int wrong : new int[] {-1, 23, LOW, HIGH}) {
            due("17 sure(" + wrong + ", 0)", x.sure(wrong, 0), OUTSIDE);
        }
        for (int wrong : new int[] {-1, 10, LOW, HIGH}) {
            due("17 sure(5, " + wrong + ")", x.sure(5, wrong), OUTSIDE);
        }
        due("17 all", x.count(1), 22 * 9 + 1);
    }

    private static void weak() {
        TripleTrap x = fresh();
        for (int j = 0; j < 4; j++) {
            due("18 at first " + j, x.weak(j), j);
        }
        x.sure(22, 8);
        x.sure(7, 8);
        x.sure(13, 0);
        int[] order = {13, 7, 22, 0};
        for (int j = 0; j < 4; j++) {
            due("18 then " + j, x.weak(j), order[j]);
        }
        for (int wrong : new int[] {-1, 4, LOW, HIGH}) {
            due("18 weak(" + wrong + ")", x.weak(wrong), OUTSIDE);
        }
    }

    private static void chosenDue(TripleTrap x, int word, int t, int best, int loss, int tryNumber) {
        due("19 chosen(" + word + ", " + t + ", 0)", x.chosen(word, t, 0), best);
        due("19 chosen(" + word + ", " + t + ", 1)", x.chosen(word, t, 1), loss);
        due("19 chosen(" + word + ", " + t + ", 2)", x.chosen(word, t, 2), tryNumber);
    }

    private static void chosen() {
        TripleTrap x = fresh();
        // 3189 has places 0, 2, 4, 5, 6, 10, 11: with four of them, the rest of it is three places away
        int four = 1 | 1 << 2 | 1 << 4 | 1 << 5;
        chosenDue(x, four, 0, 3189, 27, 0);
        due("19 one try", x.chosen(four, 0, 3), 1);
        chosenDue(x, four, 4, 3189, 27, 0);
        x.sure(0, 0);
        x.sure(2, 1);
        x.sure(4, 2);
        x.sure(5, 3);
        // 0 is four places away, reached from try 1 on, with a loss of 0 + 1 + 2 + 3
        chosenDue(x, four, 0, 3189, 27, 0);
        chosenDue(x, four, 1, 0, 6, 1);
        chosenDue(x, four, 4, 0, 6, 1);
        due("19 two tries", x.chosen(four, 1, 3), 2);
        for (int wrong : new int[] {-1, ALL + 1, LOW, HIGH}) {
            due("19 chosen(" + wrong + ", 0, 0)", x.chosen(wrong, 0, 0), OUTSIDE);
        }
        for (int wrong : new int[] {-1, 5, LOW, HIGH}) {
            due("19 chosen(0, " + wrong + ", 0)", x.chosen(0, wrong, 0), OUTSIDE);
        }
        for (int wrong : new int[] {-1, 4, LOW, HIGH}) {
            due("19 chosen(0, 4, " + wrong + ")", x.chosen(0, 4, wrong), OUTSIDE);
        }
    }

    private static void image() {
        TripleTrap x = fresh();
        x.move(2, 3);
        due("20 image(1)", x.image(1), 1);
        due("20 kept", x.count(2), 2);
        x.move(4, 5);
        x.sure(3, 3);
        due("20 image(0)", x.image(0), 1);
        due("20 both kept", x.count(2), 3);
        x.drop(0);
        due("20 image(1) in place of the first", x.image(1), 1);
        x.drop(0);
        due("20 restore(1)", x.restore(1), 1);
        due("20 a", x.told(0, 0), 4);
        due("20 sure", x.count(43), 3);
        for (int wrong : new int[] {-1, 2, LOW, HIGH}) {
            due("20 image(" + wrong + ")", x.image(wrong), OUTSIDE);
        }
        due("20 still both", x.count(2), 3);
    }

    private static void restore() {
        TripleTrap x = fresh();
        x.move(2, 3);
        x.move(1, 0);
        x.sure(22, 0);
        x.image(0);
        due("21 restore(1)", x.restore(1), TripleTrap.STATE);
        for (int round = 0; round < 2; round++) {
            x.sure(22, 7);
            x.drop(0);
            x.move(3, 22);
            x.move(3, 21);
            due("21 restore(0)", x.restore(0), 1);
            due("21 moves", x.count(0), 2);
            due("21 a of 0", x.told(0, 0), 2);
            due("21 b of 0", x.told(0, 1), 3);
            due("21 a of 1", x.told(1, 0), 1);
            due("21 place 22", x.count(62), 0);
            due("21 the image stays, no other comes", x.count(2), 1);
        }
        x.image(1);
        due("21 restore(0) leaves image 1", x.restore(0), 1);
        due("21 both kept", x.count(2), 3);
        for (int wrong : new int[] {-1, 2, LOW, HIGH}) {
            due("21 restore(" + wrong + ")", x.restore(wrong), OUTSIDE);
        }
    }

    private static void count() {
        TripleTrap x = fresh();
        int[] weights = {1, 0, 0, 0, 0, 0, 0, 253, 506, 0, 0, 1288, 1288, 0, 0, 506, 253, 0, 0, 0, 0, 0, 0, 1};
        for (int w = 0; w < 24; w++) {
            due("22 count(" + (10 + w) + ")", x.count(10 + w), weights[w]);
        }
        for (int p = 0; p < 23; p++) {
            x.sure(p, p % 10);
            due("22 count(" + (40 + p) + ")", x.count(40 + p), p % 10);
        }
        due("22 count(1)", x.count(1), 45 + 45 + 0 + 1 + 2);
        x.move(1, 5);
        due("22 count(0)", x.count(0), 1);
        x.image(0);
        due("22 count(2)", x.count(2), 1);
        for (int wrong : new int[] {-1, 3, 9, 34, 39, 63, LOW, HIGH}) {
            due("22 count(" + wrong + ")", x.count(wrong), OUTSIDE);
        }
    }

    private static String face(TripleTrap x) {
        StringBuilder text = new StringBuilder();
        for (int what = 0; what < 63; what++) {
            text.append(x.count(what)).append(' ');
        }
        for (int i = 0; i < 8; i++) {
            text.append(x.told(i, 0)).append(' ').append(x.told(i, 1)).append(' ').append(x.told(i, 2)).append(' ');
        }
        return text.append(x.open(0)).append(' ').append(x.open(1)).toString();
    }

    private static void refusedChangesNothing() {
        TripleTrap x = withEight();
        x.sure(3, 3);
        x.image(0);
        String before = face(x);
        x.move(1, 0);
        x.move(5, 0);
        x.move(0, 0);
        x.drop(8);
        x.sure(0, 10);
        x.sure(23, 1);
        x.image(2);
        x.restore(1);
        x.restore(2);
        x.chosen(0, 5, 0);
        x.chosen(15, 4, 3);
        CHECK.holds("what is refused changes nothing", before.equals(face(x)));
    }

    private static void objectsAreApart() {
        TripleTrap x = withEight();
        x.sure(3, 3);
        x.image(0);
        String untouched = face(fresh());
        CHECK.holds("objects share no state", !untouched.equals(face(x)) && untouched.equals(face(fresh())));
    }
}
