/** Counts the answers that are not as due; the tests of the project share it. */
final class Due {
    private int wrong = 0;
    private int looked = 0;

    void is(String call, long got, long want) {
        looked++;
        if (got != want) {
            wrong++;
            System.out.println(call + " answered " + got + ", due is " + want);
        }
    }

    /** As above; the text is made only if it is shown. */
    void is(String at, Object call, long got, long want) {
        looked++;
        if (got != want) {
            wrong++;
            System.out.println(at + ": " + call + " answered " + got + ", due is " + want);
        }
    }

    void isTrue(String call, boolean got) {
        is(call, got ? 1 : 0, 1);
    }

    void isFalse(String call, boolean got) {
        is(call, got ? 1 : 0, 0);
    }

    /** What later calls answer must not depend on a refused call: the whole state, as a text. */
    static String state(PhaseCounts x) {
        StringBuilder text = new StringBuilder();
        for (int i = -1; i <= 16; i++) {
            text.append(x.parity(i)).append(',').append(x.phase(i)).append(',');
            text.append(x.function(i)).append(' ');
        }
        return text.append(x.total(0)).toString();
    }

    void same(String call, String got, String want) {
        looked++;
        if (!got.equals(want)) {
            wrong++;
            System.out.println(call + " led to " + got + ", due is " + want);
        }
    }

    void end() {
        System.out.println(wrong == 0 ? looked + " answers are as due" : wrong + " of " + looked + " are not as due");
        if (wrong != 0) {
            System.exit(1);
        }
    }
}
