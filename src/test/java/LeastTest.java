import java.util.Random;

/** Promises 9, 10 and 13: the least phases, settling to them, and the totals. */
public final class LeastTest {
    private static final int[] WAYS = {0, 1, 2, 32, 131072};

    public static void main(String[] args) {
        Due due = new Due();
        oneWire(due);
        twoWires(due);
        wrongInputs(due);
        totals(due);
        againstAllWays(due);
        settles(due);
        due.end();
    }

    private static void oneWire(Due due) {
        for (int e = 0; e < 8; e++) {
            PhaseCounts x = new PhaseCounts();
            x.turn(0, e);
            due.is("9: least(0)", x.least(0), e % 2);
            due.is("9: least(1)", x.least(1), e == 0 ? 0 : 1);
            due.is("9: least(101)", x.least(101), e);
            due.is("10: settle()", x.settle(), 0);
        }
    }

    // Of two wires the only other way has 4 more everywhere.
    private static void twoWires(Due due) {
        int[][] least = {{4, 4, 4, 0, 0, 0}, {0, 4, 4, 4, 0, 0}, {5, 4, 4, 1, 0, 0}, {5, 6, 7, 1, 2, 3},
            {1, 4, 0, 1, 4, 0}, {5, 0, 4, 1, 4, 0}, {4, 1, 1, 0, 5, 5}, {3, 7, 7, 3, 7, 7}};
        for (int[] row : least) {
            PhaseCounts x = new PhaseCounts();
            x.begin(2);
            Runs.give(x, new int[] {0, row[0], row[1], row[2]});
            int others = 0;
            for (int p = 1; p <= 3; p++) {
                due.is("9: least(100 + " + p + ")", x.least(100 + p), row[2 + p]);
                others += row[p - 1] == row[2 + p] ? 0 : 1;
            }
            due.is("10: settle()", x.settle(), others);
            due.is("10: settle() again", x.settle(), 0);
        }
    }

    private static void wrongInputs(Due due) {
        for (int n = 1; n <= 4; n++) {
            PhaseCounts x = new PhaseCounts();
            x.begin(n);
            int[] none = {-1, 2, 3, 99, 100, 100 + (1 << n), 116, Integer.MAX_VALUE, Integer.MIN_VALUE,
                Integer.MIN_VALUE + 100, Integer.MIN_VALUE + 99};
            for (int what : none) {
                due.is("9: least(" + what + ")", x.least(what), -1);
            }
            due.is("9: least of the last", x.least(99 + (1 << n)), 0);
            for (int what : new int[] {-1, 4, Integer.MAX_VALUE, Integer.MIN_VALUE}) {
                due.is("13: total(" + what + ")", x.total(what), -1);
            }
        }
    }

    private static void totals(Due due) {
        PhaseCounts x = new PhaseCounts();
        for (int n = 1; n <= 4; n++) {
            x.begin(n);
            due.is("13: total(0)", x.total(0), n);
            due.is("13: total(1)", x.total(1), 0);
            due.is("13: total(2)", x.total(2), 0);
            due.is("13: total(3)", x.total(3), WAYS[n]);
            due.is("13: total(3), all ways", x.total(3), Reference.still(n).length);
            x.turn(0, 2);
            due.is("13: total(1)", x.total(1), 1);
            due.is("13: total(2)", x.total(2), 0);
            x.turn(n - 1, 3);
            due.is("13: total(1)", x.total(1), n == 1 ? 1 : 2);
            due.is("13: total(2)", x.total(2), 1);
            due.is("13: total(3)", x.total(3), WAYS[n]);
        }
    }

    private static void againstAllWays(Due due) {
        Random random = new Random(7);
        for (int n = 2; n <= 4; n++) {
            for (int k = 0; k < 150; k++) {
                int[] phases = new int[1 << n];
                // Many zeros, many fours, or all even: the rules behind the first one decide there.
                for (int p = 1; p < 1 << n; p++) {
                    phases[p] = k % 3 == 0 ? random.nextInt(8) : k % 3 == 1 ? 2 * random.nextInt(4) : 4 * random.nextInt(2);
                    if (random.nextInt(6) < k % 5) phases[p] = k % 2;
                }
                compare(due, n, phases);
            }
        }
        for (int p = 1; p < 16; p++) {
            int[] one = new int[16];
            one[p] = 2;
            compare(due, 4, one);
            int[] ones = new int[16];
            java.util.Arrays.fill(ones, 1);
            ones[p] = 0;
            compare(due, 4, ones);
        }
    }

    private static void compare(Due due, int n, int[] phases) {
        PhaseCounts x = new PhaseCounts();
        Reference y = new Reference();
        x.begin(n);
        y.begin(n);
        Runs.give(x, phases);
        give(y, phases);
        String name = "9: of " + java.util.Arrays.toString(phases) + " least ";
        due.is(name + 0, x.least(0), y.least(0));
        due.is(name + 1, x.least(1), y.least(1));
        for (int p = 1; p < 1 << n; p++) {
            due.is(name + (100 + p), x.least(100 + p), y.least(100 + p));
            due.is("9: phase(" + p + ") is kept", x.phase(p), phases[p]);
        }
        due.is(name + "settle()", x.settle(), y.settle());
        due.is(name + "settle() again", x.settle(), 0);
        for (int i = 0; i < 1 << n; i++) {
            due.is(name + "phase(" + i + ")", x.phase(i), y.phase(i));
            due.is(name + "function(" + i + ")", x.function(i), Reference.functionOf(phases, i));
        }
    }

    private static void settles(Due due) {
        PhaseCounts x = new PhaseCounts();
        x.begin(2);
        due.is("10: settle()", x.settle(), 0);
        Runs.give(x, new int[] {0, 4, 4, 4});
        due.is("10: settle()", x.settle(), 3);
        due.is("10: total(1)", x.total(1), 0);
        x.turn(0, 1);
        due.is("10: phase(1)", x.phase(1), 1);
        due.is("10: least(101)", x.least(101), 1);
        due.is("10: parity(0) is kept", x.parity(0), 1);
    }

    /** As Runs.give does. */
    private static void give(Reference y, int[] phases) {
        for (int p = 1; p < phases.length; p++) {
            int top = 31 - Integer.numberOfLeadingZeros(p);
            for (int w = 0; w < top; w++) if ((p >> w & 1) != 0) y.join(w, top);
            y.turn(top, phases[p]);
            for (int w = 0; w < top; w++) if ((p >> w & 1) != 0) y.join(w, top);
        }
    }
}
