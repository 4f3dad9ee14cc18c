import java.util.ArrayList;
import java.util.List;

/** The calls that are refused by OUTSIDE, with the least and the greatest of each of their numbers. */
final class Calls {
    static final int ALL = 8388607;
    private static final int MOST_TRIED = 6;

    interface Asked {
        int of(TripleTrap x, int... numbers);
    }

    /** A call with its numbers' bounds, two for each: the least that is allowed, and the greatest. */
    record Call(String name, Asked asked, int... bounds) {
        int size() {
            return bounds.length / 2;
        }

        int least(int i) {
            return bounds[2 * i];
        }

        int greatest(int i) {
            return bounds[2 * i + 1];
        }

        String text(int... numbers) {
            return name + java.util.Arrays.toString(numbers);
        }
    }

    /** The numbers of count lie in three pieces, and each piece has edges of its own. */
    static final Call[] EVERY = {
        new Call("2 made", (x, n) -> x.made(n[0]), 0, 4095),
        new Call("3 rest", (x, n) -> x.rest(n[0]), 0, ALL),
        new Call("4 of", (x, n) -> x.of(n[0], n[1]), 0, ALL, 0, 3),
        new Call("5 around", (x, n) -> x.around(n[0], n[1]), 0, ALL, 0, 23),
        new Call("6 turned", (x, n) -> x.turned(n[0], n[1]), 0, ALL, 0, 22),
        new Call("7 trapped", (x, n) -> x.trapped(n[0], n[1]), 0, ALL, 0, 2),
        new Call("8 wide", (x, n) -> x.wide(n[0]), 0, 4095),
        new Call("9 read", (x, n) -> x.read(n[0], n[1]), 0, 16777215, 0, 1),
        new Call("10 keeps", (x, n) -> x.keeps(n[0], n[1]), 1, 22, 0, 22),
        new Call("11 moved", (x, n) -> x.moved(n[0], n[1], n[2]), 0, ALL, 1, 22, 0, 22),
        new Call("12 move", (x, n) -> x.move(n[0], n[1]), 1, 22, 0, 22),
        new Call("15 freed", (x, n) -> x.freed(n[0], n[1]), 0, ALL, 0, 1),
        new Call("16 open", (x, n) -> x.open(n[0]), 0, 1),
        new Call("17 sure", (x, n) -> x.sure(n[0], n[1]), 0, 22, 0, 9),
        new Call("18 weak", (x, n) -> x.weak(n[0]), 0, 3),
        new Call("19 chosen", (x, n) -> x.chosen(n[0], n[1], n[2]), 0, ALL, 0, 4, 0, 3),
        new Call("20 image", (x, n) -> x.image(n[0]), 0, 1),
        new Call("21 restore", (x, n) -> x.restore(n[0]), 0, 1),
        new Call("22 count", (x, n) -> x.count(n[0]), 0, 2),
        new Call("22 count", (x, n) -> x.count(n[0]), 10, 33),
        new Call("22 count", (x, n) -> x.count(n[0]), 40, 62),
    };

    private Calls() {
    }

    /** All that a small number may be; of a large one the edges and what lies beside them. */
    static int[] allowed(int least, int greatest) {
        if (greatest - least >= MOST_TRIED) {
            return new int[] {least, least + 1, greatest - 1, greatest};
        }
        int[] all = new int[greatest - least + 1];
        for (int i = 0; i < all.length; i++) {
            all[i] = least + i;
        }
        return all;
    }

    static int[] beyond(int least, int greatest) {
        return new int[] {least - 1, greatest + 1, Integer.MIN_VALUE, Integer.MAX_VALUE};
    }

    /** The rows of numbers in which just those of a set are beyond their bounds; an empty set asks for allowed ones. */
    static List<int[]> rows(Call call, int wrongOnes) {
        List<int[]> rows = new ArrayList<>();
        rows.add(new int[call.size()]);
        for (int i = 0; i < call.size(); i++) {
            boolean wrong = (wrongOnes >> i & 1) == 1;
            int least = call.least(i), greatest = call.greatest(i);
            rows = with(rows, i, wrong ? beyond(least, greatest) : allowed(least, greatest));
        }
        return rows;
    }

    private static List<int[]> with(List<int[]> rows, int place, int[] values) {
        List<int[]> more = new ArrayList<>();
        for (int[] row : rows) {
            for (int value : values) {
                int[] next = row.clone();
                next[place] = value;
                more.add(next);
            }
        }
        return more;
    }
}
