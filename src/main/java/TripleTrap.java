/** The binary code of 23 places that mends any three errors, with the ways to find them that the document names. */
public final class TripleTrap {
    public static final int UNKNOWN = -1, OUTSIDE = -2, STATE = -3, FULL = -4, NO = -5, NONE = -6;

    private static final int PLACES = 23;
    private static final int CHECKS = 11;
    private static final int KEY = 3189;
    private static final int MENDED = 3;
    private static final int MESSAGES = 1 << (PLACES - CHECKS);
    private static final int RESTS = 1 << CHECKS;
    private static final int WORDS = 1 << PLACES;
    private static final int WIDE_WORDS = 1 << (PLACES + 1);
    private static final int MOST_MOVES = 8;
    private static final int TRIPLES = 1771;
    private static final int SUREST = 9;
    private static final int MOST_WEAK = 4;
    private static final int MOST_TRIES = 1 << MOST_WEAK;
    private static final int IMAGES = 2;
    private static final int DISTANCES = PLACES + 1;
    private static final int FIRST_WEIGHT = 10;
    private static final int FIRST_PLACE = 40;

    /**
     * How many words of the code lie at distances 0 to 23 from a word, a row for each distance (0 to 3) of that
     * word from its nearest one. The code is perfect, so nothing else about the word matters; written out because
     * counting them costs 4096 steps a call.
     */
    private static final int[] AROUND = {
        1, 0, 0, 0, 0, 0, 0, 253, 506, 0, 0, 1288, 1288, 0, 0, 506, 253, 0, 0, 0, 0, 0, 0, 1,
        0, 1, 0, 0, 0, 0, 77, 176, 176, 330, 616, 672, 672, 616, 330, 176, 176, 77, 0, 0, 0, 0, 1, 0,
        0, 0, 1, 0, 0, 21, 56, 112, 240, 400, 546, 672, 672, 546, 400, 240, 112, 56, 21, 0, 0, 1, 0, 0,
        0, 0, 0, 1, 5, 16, 48, 120, 240, 400, 560, 658, 658, 560, 400, 240, 120, 48, 16, 5, 1, 0, 0, 0
    };

    private final Mender mender;
    private final Held now;
    private final Held[] images;
    private int imagesKept;
    private final int[] tries;

    public TripleTrap() {
        mender = new Mender();
        now = new Held();
        images = new Held[IMAGES];
        for (int k = 0; k < IMAGES; k++) {
            images[k] = new Held();
        }
        imagesKept = 0;
        tries = new int[MOST_TRIES];
    }

    // ---- 1 the code

    public int made(int message) {
        return isBelow(message, MESSAGES) ? Bits.coded(message) : OUTSIDE;
    }

    public int rest(int word) {
        return isBelow(word, WORDS) ? Bits.remainder(word) : OUTSIDE;
    }

    public int of(int word, int what) {
        if (!isBelow(word, WORDS) || !isBelow(what, 4)) {
            return OUTSIDE;
        }
        switch (what) {
            case 0:
                return Integer.bitCount(word);
            case 1:
                return mender.nearest(word);
            case 2:
                return mender.distance(word);
            default:
                return Bits.message(mender.nearest(word));
        }
    }

    public int around(int word, int d) {
        if (!isBelow(word, WORDS) || !isBelow(d, DISTANCES)) {
            return OUTSIDE;
        }
        return codeWordsAt(mender.distance(word), d);
    }

    // ---- 2 turned, trapped, wide

    public int turned(int word, int n) {
        return isBelow(word, WORDS) && isBelow(n, PLACES) ? Bits.turn(word, n) : OUTSIDE;
    }

    public int trapped(int word, int what) {
        if (!isBelow(word, WORDS) || !isBelow(what, 3)) {
            return OUTSIDE;
        }
        for (int n = 0; n < PLACES; n++) {
            int atTurn = Bits.turn(word, n);
            for (int way = 0; way < 3; way++) {
                int errors = Bits.trapErrors(atTurn, way);
                if (errors != NONE) {
                    return what == 0 ? n : what == 1 ? way : Bits.turnBack(errors, n);
                }
            }
        }
        return NONE;
    }

    public int wide(int message) {
        return isBelow(message, MESSAGES) ? Bits.widen(Bits.coded(message)) : OUTSIDE;
    }

    public int read(int bits, int what) {
        if (!isBelow(bits, WIDE_WORDS) || !isBelow(what, 2)) {
            return OUTSIDE;
        }
        int nearest = mender.nearest(bits & (WORDS - 1));
        int apart = Integer.bitCount(Bits.widen(nearest) ^ bits);
        if (apart > MENDED) {
            return NONE;
        }
        return what == 0 ? Bits.message(nearest) : apart;
    }

    // ---- 3 moves

    public int keeps(int a, int b) {
        if (!isMove(a, b)) {
            return OUTSIDE;
        }
        return Bits.staysInCode(a, b) ? 1 : 0;
    }

    public int moved(int word, int a, int b) {
        return isBelow(word, WORDS) && isMove(a, b) ? Bits.carry(word, a, b) : OUTSIDE;
    }

    public int move(int a, int b) {
        if (!isMove(a, b)) {
            return OUTSIDE;
        }
        if (!Bits.staysInCode(a, b)) {
            return NO;
        }
        if (now.moves.size == MOST_MOVES) {
            return FULL;
        }
        now.moves.append(a, b);
        return now.moves.size - 1;
    }

    public int drop(int move) {
        if (!isBelow(move, now.moves.size)) {
            return UNKNOWN;
        }
        now.moves.removeAt(move);
        return now.moves.size;
    }

    public int told(int move, int what) {
        if (!isBelow(move, now.moves.size)) {
            return UNKNOWN;
        }
        switch (what) {
            case 0:
                return now.moves.factors[move];
            case 1:
                return now.moves.shifts[move];
            case 2:
                return now.moves.coveredByFirst(move + 1) - now.moves.coveredByFirst(move);
            default:
                return OUTSIDE;
        }
    }

    public int freed(int word, int what) {
        if (!isBelow(word, WORDS) || !isBelow(what, 2)) {
            return OUTSIDE;
        }
        for (int i = 0; i < now.moves.size; i++) {
            int a = now.moves.factors[i];
            int b = now.moves.shifts[i];
            int errors = Bits.remainder(Bits.carry(word, a, b));
            if (Integer.bitCount(errors) <= MENDED) {
                return what == 0 ? i : Bits.carryBack(errors, a, b);
            }
        }
        return NONE;
    }

    public int open(int what) {
        switch (what) {
            case 0:
                return TRIPLES - now.moves.coveredByFirst(now.moves.size);
            case 1:
                return now.moves.firstNotCovered();
            default:
                return OUTSIDE;
        }
    }

    // ---- 4 how sure

    public int sure(int place, int v) {
        if (!isBelow(place, PLACES) || !isBelow(v, SUREST + 1)) {
            return OUTSIDE;
        }
        int before = now.trust.levels[place];
        now.trust.levels[place] = v;
        return before;
    }

    public int weak(int j) {
        if (!isBelow(j, MOST_WEAK)) {
            return OUTSIDE;
        }
        int earlier = 0;
        for (int i = 0; i < j; i++) {
            earlier |= 1 << now.trust.weakestBut(earlier);
        }
        return now.trust.weakestBut(earlier);
    }

    public int chosen(int word, int t, int what) {
        if (!isBelow(word, WORDS) || !isBelow(t, MOST_WEAK + 1) || !isBelow(what, 4)) {
            return OUTSIDE;
        }
        int size = 1 << t;
        fillTries(word, t);
        if (what == 3) {
            return unlikeTries(size);
        }
        int best = bestTry(word, size);
        if (what == 2) {
            return best;
        }
        return what == 0 ? tries[best] : now.trust.sum(tries[best] ^ word);
    }

    // ---- 5 images

    public int image(int k) {
        if (!isBelow(k, IMAGES)) {
            return OUTSIDE;
        }
        images[k].copyFrom(now);
        imagesKept |= 1 << k;
        return 1;
    }

    public int restore(int k) {
        if (!isBelow(k, IMAGES)) {
            return OUTSIDE;
        }
        if ((imagesKept >>> k & 1) == 0) {
            return STATE;
        }
        now.copyFrom(images[k]);
        return 1;
    }

    public int count(int what) {
        if (what == 0) {
            return now.moves.size;
        }
        if (what == 1) {
            return now.trust.sum(WORDS - 1);
        }
        if (what == 2) {
            return imagesKept;
        }
        if (what >= FIRST_WEIGHT && what < FIRST_WEIGHT + DISTANCES) {
            return codeWordsAt(0, what - FIRST_WEIGHT);
        }
        if (what >= FIRST_PLACE && what < FIRST_PLACE + PLACES) {
            return now.trust.levels[what - FIRST_PLACE];
        }
        return OUTSIDE;
    }

    private static boolean isBelow(int number, int bound) {
        return number >= 0 && number < bound;
    }

    private static boolean isMove(int a, int b) {
        return a != 0 && isBelow(a, PLACES) && isBelow(b, PLACES);
    }

    private static int codeWordsAt(int fromNearest, int d) {
        if (!isBelow(fromNearest, MENDED + 1) || !isBelow(d, DISTANCES)) {
            return 0;
        }
        return AROUND[fromNearest * DISTANCES + d];
    }

    /** Each further weak place doubles the tries, so try k of the old ones and k + half differ in it alone. */
    private void fillTries(int word, int t) {
        tries[0] = word;
        int taken = 0;
        for (int j = 0; j < t && j < MOST_WEAK; j++) {
            int change = 1 << now.trust.weakestBut(taken);
            int half = 1 << j;
            for (int k = 0; k < half; k++) {
                tries[half + k] = tries[k] ^ change;
            }
            taken |= change;
        }
        for (int k = 0; k < 1 << t && k < MOST_TRIES; k++) {
            tries[k] = mender.nearest(tries[k]);
        }
    }

    private int bestTry(int word, int size) {
        int best = 0;
        int least = now.trust.sum(tries[0] ^ word);
        for (int k = 1; k < size && k < MOST_TRIES; k++) {
            int loss = now.trust.sum(tries[k] ^ word);
            if (loss < least) {
                least = loss;
                best = k;
            }
        }
        return best;
    }

    private int unlikeTries(int size) {
        int unlike = 0;
        for (int k = 0; k < size && k < MOST_TRIES; k++) {
            if (isFirstOfItsWord(k)) {
                unlike++;
            }
        }
        return unlike;
    }

    private boolean isFirstOfItsWord(int k) {
        for (int i = 0; i < k; i++) {
            if (tries[i] == tries[k]) {
                return false;
            }
        }
        return true;
    }

    /** What can be told of words alone, without any state. */
    private static final class Bits {
        private static int remainder(int word) {
            int left = word;
            for (int p = PLACES - 1; p >= CHECKS; p--) {
                if ((left >>> p & 1) == 1) {
                    left ^= KEY << (p - CHECKS);
                }
            }
            return left;
        }

        private static int coded(int message) {
            int shifted = message << CHECKS;
            return shifted | remainder(shifted);
        }

        private static int message(int codeWord) {
            return codeWord >>> CHECKS;
        }

        private static int widen(int word) {
            return word | (Integer.bitCount(word) & 1) << PLACES;
        }

        private static int turn(int word, int n) {
            return (word << n | word >>> (PLACES - n)) & (WORDS - 1);
        }

        private static int turnBack(int word, int n) {
            return turn(word, PLACES - n);
        }

        /** The errors of a word that lie among the checks, but for one at place 16 (way 1) or 17 (way 2); or NONE. */
        private static int trapErrors(int word, int way) {
            int change = way == 0 ? 0 : way == 1 ? 1 << 16 : 1 << 17;
            int errors = remainder(word ^ change) | change;
            return Integer.bitCount(errors) <= MENDED ? errors : NONE;
        }

        private static int target(int place, int a, int b) {
            return (a * place + b) % PLACES;
        }

        private static int carry(int word, int a, int b) {
            int result = 0;
            for (int p = 0; p < PLACES; p++) {
                result |= (word >>> p & 1) << target(p, a, b);
            }
            return result;
        }

        private static int carryBack(int word, int a, int b) {
            int result = 0;
            for (int p = 0; p < PLACES; p++) {
                result |= (word >>> target(p, a, b) & 1) << p;
            }
            return result;
        }

        /** The shifts of KEY add up to every word of the code, and a move of a sum is the sum of the moves. */
        private static boolean staysInCode(int a, int b) {
            for (int i = 0; i < PLACES - CHECKS; i++) {
                if (remainder(carry(KEY << i, a, b)) != 0) {
                    return false;
                }
            }
            return true;
        }
    }

    /** Knows for every rest the one set of at most three errors that leaves it. */
    private static final class Mender {
        private final int[] errorsByRest;

        private Mender() {
            errorsByRest = new int[RESTS];
            int[] restOfPlace = new int[PLACES];
            for (int p = 0; p < PLACES; p++) {
                restOfPlace[p] = Bits.remainder(1 << p);
            }
            for (int p = 0; p < PLACES; p++) {
                enter(restOfPlace[p], 1 << p);
                for (int q = 0; q < p; q++) {
                    int restOfPair = restOfPlace[p] ^ restOfPlace[q];
                    int pair = 1 << p | 1 << q;
                    enter(restOfPair, pair);
                    for (int r = 0; r < q; r++) {
                        enter(restOfPair ^ restOfPlace[r], pair | 1 << r);
                    }
                }
            }
        }

        private void enter(int left, int errors) {
            if (isBelow(left, RESTS)) {
                errorsByRest[left] = errors;
            }
        }

        private int errors(int word) {
            int left = Bits.remainder(word);
            return isBelow(left, RESTS) ? errorsByRest[left] : 0;
        }

        private int nearest(int word) {
            return word ^ errors(word);
        }

        private int distance(int word) {
            return Integer.bitCount(errors(word));
        }
    }

    /** The moves that were told, in the order of their numbers. */
    private static final class Moves {
        private int size;
        private final int[] factors;
        private final int[] shifts;
        /** For each move the set of places that it brings to the checks. */
        private final int[] brought;

        private Moves() {
            size = 0;
            factors = new int[MOST_MOVES];
            shifts = new int[MOST_MOVES];
            brought = new int[MOST_MOVES];
        }

        private void copyFrom(Moves other) {
            size = other.size;
            for (int i = 0; i < MOST_MOVES; i++) {
                factors[i] = other.factors[i];
                shifts[i] = other.shifts[i];
                brought[i] = other.brought[i];
            }
        }

        private void append(int a, int b) {
            if (size >= MOST_MOVES) {
                return;
            }
            factors[size] = a;
            shifts[size] = b;
            brought[size] = Bits.carryBack(RESTS - 1, a, b);
            size++;
        }

        private void removeAt(int move) {
            if (!isBelow(move, size)) {
                return;
            }
            for (int i = move; i + 1 < size; i++) {
                factors[i] = factors[i + 1];
                shifts[i] = shifts[i + 1];
                brought[i] = brought[i + 1];
            }
            size--;
        }

        /** The places that one of the first so many moves brings to the checks together with both p and q. */
        private int joined(int p, int q, int first) {
            int pair = 1 << p | 1 << q;
            int places = 0;
            for (int i = 0; i < first && i < size; i++) {
                if ((brought[i] & pair) == pair) {
                    places |= brought[i];
                }
            }
            return places;
        }

        private int coveredByFirst(int first) {
            int covered = 0;
            for (int p = 0; p < PLACES; p++) {
                for (int q = p + 1; q < PLACES; q++) {
                    covered += Integer.bitCount(joined(p, q, first) >>> (q + 1));
                }
            }
            return covered;
        }

        private int firstNotCovered() {
            for (int p = 0; p < PLACES; p++) {
                for (int q = p + 1; q < PLACES; q++) {
                    int places = joined(p, q, size);
                    for (int r = q + 1; r < PLACES; r++) {
                        if ((places >>> r & 1) == 0) {
                            return (p * PLACES + q) * PLACES + r;
                        }
                    }
                }
            }
            return NONE;
        }
    }

    /** How sure each place is. */
    private static final class Trust {
        private final int[] levels;

        private Trust() {
            levels = new int[PLACES];
            for (int p = 0; p < PLACES; p++) {
                levels[p] = SUREST;
            }
        }

        private void copyFrom(Trust other) {
            for (int p = 0; p < PLACES; p++) {
                levels[p] = other.levels[p];
            }
        }

        private int sum(int places) {
            int sum = 0;
            for (int p = 0; p < PLACES; p++) {
                if ((places >>> p & 1) == 1) {
                    sum += levels[p];
                }
            }
            return sum;
        }

        /** The least sure place that is not among the given ones, the least of such. */
        private int weakestBut(int places) {
            int weakest = 0;
            int least = SUREST + 1;
            for (int p = 0; p < PLACES; p++) {
                if ((places >>> p & 1) == 0 && levels[p] < least) {
                    least = levels[p];
                    weakest = p;
                }
            }
            return weakest;
        }
    }

    /** All that an image keeps. */
    private static final class Held {
        private final Moves moves;
        private final Trust trust;

        private Held() {
            moves = new Moves();
            trust = new Trust();
        }

        private void copyFrom(Held other) {
            moves.copyFrom(other.moves);
            trust.copyFrom(other.trust);
        }
    }
}
