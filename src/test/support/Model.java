import java.util.ArrayList;
import java.util.HashSet;
import java.util.List;
import java.util.Set;

/** The document word by word, by trying everything: slow, and sharing nothing with the class that it checks. */
final class Model {
    static final int UNKNOWN = -1, OUTSIDE = -2, STATE = -3, FULL = -4, NO = -5, NONE = -6;
    static final int[] CODE = codeWords();

    private List<int[]> moves = new ArrayList<>();
    private int[] sure = new int[23];
    private final List<List<int[]>> keptMoves = new ArrayList<>();
    private final int[][] keptSure = new int[2][];

    Model() {
        java.util.Arrays.fill(sure, 9);
        keptMoves.add(null);
        keptMoves.add(null);
    }

    static int restOf(int number) {
        int x = number;
        while (x >= 2048) {
            int p = 31 - Integer.numberOfLeadingZeros(x);
            x ^= 3189 << (p - 11);
        }
        return x;
    }

    private static int[] codeWords() {
        int[] found = new int[4096];
        int size = 0;
        for (int w = 0; w < 8388608; w++) {
            if (restOf(w) == 0) {
                found[size++] = w;
            }
        }
        if (size != 4096) {
            throw new IllegalStateException("the code has " + size + " words");
        }
        return found;
    }

    private static int apart(int a, int b) {
        return Integer.bitCount(a ^ b);
    }

    static int nearestOf(int word) {
        for (int c : CODE) {
            if (apart(c, word) <= 3) {
                return c;
            }
        }
        throw new IllegalStateException("no nearest of " + word);
    }

    private static boolean in(int x, int least, int most) {
        return least <= x && x <= most;
    }

    private static boolean isWord(int w) {
        return in(w, 0, 8388607);
    }

    private static boolean isMove(int a, int b) {
        return in(a, 1, 22) && in(b, 0, 22);
    }

    int made(int message) {
        if (!in(message, 0, 4095)) return OUTSIDE;
        return message * 2048 + restOf(message * 2048);
    }

    int rest(int word) {
        return isWord(word) ? restOf(word) : OUTSIDE;
    }

    int of(int word, int what) {
        if (!isWord(word) || !in(what, 0, 3)) return OUTSIDE;
        if (what == 0) return Integer.bitCount(word);
        int near = nearestOf(word);
        return what == 1 ? near : what == 2 ? apart(near, word) : near / 2048;
    }

    int around(int word, int d) {
        if (!isWord(word) || !in(d, 0, 23)) return OUTSIDE;
        int n = 0;
        for (int c : CODE) {
            if (apart(c, word) == d) n++;
        }
        return n;
    }

    private static int turn(int word, int n) {
        int x = 0;
        for (int p = 0; p < 23; p++) {
            int to = p + n >= 23 ? p + n - 23 : p + n;
            if ((word & (1 << p)) != 0) x += 1 << to;
        }
        return x;
    }

    int turned(int word, int n) {
        return isWord(word) && in(n, 0, 22) ? turn(word, n) : OUTSIDE;
    }

    int trapped(int word, int what) {
        if (!isWord(word) || !in(what, 0, 2)) return OUTSIDE;
        for (int n = 0; n < 23; n++) {
            int t = turn(word, n);
            int[] errors = {restOf(t), restOf(t ^ 65536), restOf(t ^ 131072)};
            int way = -1;
            if (Integer.bitCount(errors[0]) <= 3) way = 0;
            else if (Integer.bitCount(errors[1]) <= 2) way = 1;
            else if (Integer.bitCount(errors[2]) <= 2) way = 2;
            if (way < 0) continue;
            int all = way == 0 ? errors[0] : way == 1 ? errors[1] + 65536 : errors[2] + 131072;
            int back = 0;
            for (int w = 0; w < 23; w++) {
                if (turn(1 << w, n) != (turn(1 << w, n) & all)) continue;
                back += 1 << w;
            }
            return what == 0 ? n : what == 1 ? way : back;
        }
        return NONE;
    }

    private static int widen(int word) {
        return Integer.bitCount(word) % 2 == 0 ? word : word + 8388608;
    }

    int wide(int message) {
        return in(message, 0, 4095) ? widen(made(message)) : OUTSIDE;
    }

    int read(int bits, int what) {
        if (!in(bits, 0, 16777215) || !in(what, 0, 1)) return OUTSIDE;
        int near = nearestOf(bits % 8388608);
        int away = apart(widen(near), bits);
        if (away > 3) return NONE;
        return what == 0 ? near / 2048 : away;
    }

    private static int carry(int word, int a, int b) {
        int x = 0;
        for (int p = 0; p < 23; p++) {
            if ((word & (1 << p)) != 0) x += 1 << ((a * p + b) % 23);
        }
        return x;
    }

    int keeps(int a, int b) {
        if (!isMove(a, b)) return OUTSIDE;
        for (int c : CODE) {
            if (restOf(carry(c, a, b)) != 0) return 0;
        }
        return 1;
    }

    int moved(int word, int a, int b) {
        return isWord(word) && isMove(a, b) ? carry(word, a, b) : OUTSIDE;
    }

    int move(int a, int b) {
        if (!isMove(a, b)) return OUTSIDE;
        if (keeps(a, b) == 0) return NO;
        if (moves.size() == 8) return FULL;
        moves.add(new int[] {a, b});
        return moves.size() - 1;
    }

    int drop(int move) {
        if (!in(move, 0, moves.size() - 1)) return UNKNOWN;
        moves.remove(move);
        return moves.size();
    }

    private boolean brings(int move, int p, int q, int r) {
        int[] m = moves.get(move);
        for (int x : new int[] {p, q, r}) {
            if ((m[0] * x + m[1]) % 23 > 10) return false;
        }
        return true;
    }

    private int firstThatBrings(int p, int q, int r) {
        for (int i = 0; i < moves.size(); i++) {
            if (brings(i, p, q, r)) return i;
        }
        return -1;
    }

    int told(int move, int what) {
        if (!in(move, 0, moves.size() - 1)) return UNKNOWN;
        if (!in(what, 0, 2)) return OUTSIDE;
        if (what < 2) return moves.get(move)[what];
        int n = 0;
        for (int p = 0; p < 23; p++) {
            for (int q = p + 1; q < 23; q++) {
                for (int r = q + 1; r < 23; r++) {
                    if (firstThatBrings(p, q, r) == move) n++;
                }
            }
        }
        return n;
    }

    int freed(int word, int what) {
        if (!isWord(word) || !in(what, 0, 1)) return OUTSIDE;
        for (int i = 0; i < moves.size(); i++) {
            int[] m = moves.get(i);
            int left = restOf(carry(word, m[0], m[1]));
            if (Integer.bitCount(left) > 3) continue;
            if (what == 0) return i;
            int back = 0;
            for (int p = 0; p < 23; p++) {
                if ((carry(1 << p, m[0], m[1]) & left) != 0) back += 1 << p;
            }
            return back;
        }
        return NONE;
    }

    int open(int what) {
        if (!in(what, 0, 1)) return OUTSIDE;
        int n = 0;
        int first = Integer.MAX_VALUE;
        for (int p = 22; p >= 0; p--) {
            for (int q = 22; q > p; q--) {
                for (int r = 22; r > q; r--) {
                    if (firstThatBrings(p, q, r) >= 0) continue;
                    n++;
                    first = Math.min(first, 23 * 23 * p + 23 * q + r);
                }
            }
        }
        return what == 0 ? n : n == 0 ? NONE : first;
    }

    int sure(int place, int v) {
        if (!in(place, 0, 22) || !in(v, 0, 9)) return OUTSIDE;
        int was = sure[place];
        sure[place] = v;
        return was;
    }

    private List<Integer> weakPlaces() {
        List<Integer> places = new ArrayList<>();
        for (int p = 0; p < 23; p++) places.add(p);
        places.sort((x, y) -> sure[x] != sure[y] ? Integer.compare(sure[x], sure[y]) : Integer.compare(x, y));
        return places;
    }

    int weak(int j) {
        return in(j, 0, 3) ? weakPlaces().get(j) : OUTSIDE;
    }

    int chosen(int word, int t, int what) {
        if (!isWord(word) || !in(t, 0, 4) || !in(what, 0, 3)) return OUTSIDE;
        List<Integer> weak = weakPlaces();
        Set<Integer> unlike = new HashSet<>();
        int best = -1, bestLoss = Integer.MAX_VALUE, bestTry = -1;
        for (int k = 0; k < 1 << t; k++) {
            int x = word;
            for (int j = 0; j < t; j++) {
                if ((k & (1 << j)) != 0) x ^= 1 << weak.get(j);
            }
            int near = nearestOf(x);
            unlike.add(near);
            int loss = 0;
            for (int p = 0; p < 23; p++) {
                if (((near ^ word) & (1 << p)) != 0) loss += sure[p];
            }
            if (loss < bestLoss) {
                best = near;
                bestLoss = loss;
                bestTry = k;
            }
        }
        return what == 0 ? best : what == 1 ? bestLoss : what == 2 ? bestTry : unlike.size();
    }

    int image(int k) {
        if (!in(k, 0, 1)) return OUTSIDE;
        keptMoves.set(k, new ArrayList<>(moves));
        keptSure[k] = sure.clone();
        return 1;
    }

    int restore(int k) {
        if (!in(k, 0, 1)) return OUTSIDE;
        if (keptSure[k] == null) return STATE;
        moves = new ArrayList<>(keptMoves.get(k));
        sure = keptSure[k].clone();
        return 1;
    }

    int count(int what) {
        if (what == 0) return moves.size();
        if (what == 1) return java.util.Arrays.stream(sure).sum();
        if (what == 2) return (keptSure[0] == null ? 0 : 1) + (keptSure[1] == null ? 0 : 2);
        if (in(what, 10, 33)) return around(0, what - 10);
        if (in(what, 40, 62)) return sure[what - 40];
        return OUTSIDE;
    }
}
