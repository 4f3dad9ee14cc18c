/** Objects as they are between calls: new, with something of everything, and full. */
enum State {
    EMPTY, SOME, FULL;

    private static final int[] FACTORS = {1, 2, 3, 4, 6, 8, 9, 12};

    /** Made by at most 50 calls, so that many more of the 512 are left. */
    TripleTrap make() {
        TripleTrap x = new TripleTrap();
        if (this == SOME) {
            tell(x, 2);
            x.sure(0, 0);
            x.image(1);
            x.move(13, 22);
            x.sure(22, 5);
        }
        if (this == FULL) {
            x.sure(7, 1);
            x.image(0);
            tell(x, 8);
            for (int p = 0; p < 23; p++) {
                x.sure(p, (p * 7 + 3) % 10);
            }
            x.image(1);
            x.sure(4, 4);
        }
        return x;
    }

    int moves() {
        return this == EMPTY ? 0 : this == SOME ? 3 : 8;
    }

    static void tell(TripleTrap x, int moves) {
        for (int i = 0; i < moves; i++) {
            x.move(FACTORS[i], 3 * i);
        }
    }

    /** All that can be told of the state, by 180 calls at most; what the images keep is told by restoring them. */
    static String picture(TripleTrap x) {
        StringBuilder text = new StringBuilder();
        addNow(x, text);
        for (int k = 0; k < 2; k++) {
            text.append("| image ").append(k).append(": ").append(x.restore(k)).append(' ');
            addNow(x, text);
        }
        return text.toString();
    }

    private static void addNow(TripleTrap x, StringBuilder text) {
        for (int what = 0; what < 63; what = what == 2 ? 40 : what + 1) {
            text.append(x.count(what)).append(' ');
        }
        for (int i = 0; i < 8; i++) {
            text.append(x.told(i, 0)).append(' ').append(x.told(i, 1)).append(' ').append(x.told(i, 2)).append(' ');
        }
        for (int j = 0; j < 4; j++) {
            text.append(x.weak(j)).append(' ');
        }
        text.append(x.open(0)).append(' ').append(x.open(1)).append(' ');
        text.append(x.freed(1 << 11, 0)).append(' ').append(x.chosen(15, 4, 0)).append(' ');
    }
}
