/** Counts the answers that are due and prints each one that is not. */
final class Check {
    private int right = 0;
    private int wrong = 0;

    void due(String what, long got, long want) {
        if (got == want) {
            right++;
            return;
        }
        wrong++;
        if (wrong <= 50) {
            System.out.println(what + " answered " + got + ", due is " + want);
        }
    }

    void due(String what, String got, String want) {
        if (got.equals(want)) {
            right++;
            return;
        }
        wrong++;
        if (wrong <= 50) {
            System.out.println(what + " told\n  " + got + "\ndue is\n  " + want);
        }
    }

    boolean isRight() {
        return wrong == 0;
    }

    void close() {
        System.out.println(right + " passed, " + wrong + " failed");
        if (wrong != 0 || right == 0) {
            System.exit(1);
        }
    }
}
