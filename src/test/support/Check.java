/** Collects the answers that are not the ones due. */
final class Check {
    private static final int MOST_SHOWN = 40;
    private int wrong = 0;
    private int asked = 0;

    void due(String call, long got, long want) {
        asked++;
        if (got != want) {
            fault(call + " answered " + got + ", due is " + want);
        }
    }

    void holds(String what, boolean so) {
        asked++;
        if (!so) {
            fault(what);
        }
    }

    private void fault(String text) {
        wrong++;
        if (wrong <= MOST_SHOWN) {
            System.out.println(text);
        }
    }

    int wrong() {
        return wrong;
    }

    void end() {
        System.out.println(asked + " looked at, " + wrong + " wrong");
        if (wrong != 0) {
            System.exit(1);
        }
    }
}
