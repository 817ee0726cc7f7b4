import java.util.HashSet;
import java.util.Random;
import java.util.Set;

/** Promises 11 and 12: the linear plan and the network. */
public final class PlanTest {
    public static void main(String[] args) {
        Due due = new Due();
        atFirst(due);
        known(due);
        wrongInputs(due);
        plansFollowTheState(due);
        randomMaps(due);
        randomNetworks(due);
        plansLeadToTheMap(due);
        due.end();
    }

    private static void atFirst(Due due) {
        PhaseCounts x = new PhaseCounts();
        for (int n = 1; n <= 4; n++) {
            x.begin(n);
            due.is("11: linear(NONE)", x.linear(-1), 0);
            due.is("11: linear(0)", x.linear(0), -1);
            due.is("12: network(NONE)", x.network(-1), n == 4 ? -1 : 0);
            due.is("12: network(0)", x.network(0), -1);
            x.turn(0, 1);
            due.is("12: network(NONE), a wire's own parity", x.network(-1), n == 4 ? -1 : 0);
        }
    }

    private static void known(Due due) {
        PhaseCounts x = new PhaseCounts();
        x.begin(4);
        x.change(2, 3);
        plan(due, "11: linear, two changed", x, true, new int[] {11, 14, 11});
        x.begin(2);
        x.change(0, 1);
        plan(due, "11: linear, two changed", x, true, new int[] {1, 4, 1});
        plan(due, "12: network, two changed", x, false, new int[] {1, 4, 1});
        x.begin(2);
        x.join(0, 1);
        x.turn(1, 1);
        x.join(0, 1);
        plan(due, "11: linear, nothing to do", x, true, new int[0]);
        plan(due, "12: network, a phase by the way", x, false, new int[] {1, 1});
        x.begin(3);
        x.join(2, 0);
        x.join(1, 0);
        plan(due, "11: linear, two joins", x, true, new int[] {4, 8});
    }

    private static void plan(Due due, String name, PhaseCounts x, boolean linear, int[] want) {
        due.is(name + "(NONE)", linear ? x.linear(-1) : x.network(-1), want.length);
        for (int i = 0; i <= want.length; i++) {
            due.is(name + "(" + i + ")", linear ? x.linear(i) : x.network(i), i < want.length ? want[i] : -1);
        }
    }

    private static void wrongInputs(Due due) {
        for (int n = 2; n <= 4; n++) {
            PhaseCounts x = new PhaseCounts();
            x.begin(n);
            x.change(0, 1);
            for (int i : new int[] {-2, 3, 9, 100, Integer.MAX_VALUE, Integer.MIN_VALUE}) {
                due.is("11: linear(" + i + ")", x.linear(i), -1);
                due.is("12: network(" + i + ")", x.network(i), -1);
            }
            for (int i = -1; i < 3; i++) {
                due.is("12: network(" + i + ") of " + n, x.network(i), n == 4 ? -1 : x.linear(i));
            }
        }
    }

    private static void plansFollowTheState(Due due) {
        PhaseCounts x = new PhaseCounts();
        x.begin(2);
        due.is("11: linear(NONE)", x.linear(-1), 0);
        due.is("12: network(NONE)", x.network(-1), 0);
        x.join(0, 1);
        due.is("11: linear(NONE) after join", x.linear(-1), 1);
        due.is("12: network(NONE) after join", x.network(-1), 1);
        x.turn(1, 4);
        x.join(0, 1);
        due.is("11: linear(NONE) after join back", x.linear(-1), 0);
        due.is("12: network(NONE) after join back", x.network(-1), 2);
        // 4, 4 and 4 come to nothing: nothing is needed then.
        x.turn(0, 4);
        x.turn(1, 4);
        due.is("12: network(NONE), least phases are 0", x.network(-1), 0);
        x.settle();
        due.is("12: network(NONE), settled", x.network(-1), 0);
        x.change(0, 1);
        due.is("12: network(NONE) after change", x.network(-1), 3);
        due.is("11: linear(NONE) after change", x.linear(-1), 3);
        x.begin(3);
        due.is("11: linear(NONE) after begin", x.linear(-1), 0);
        due.is("12: network(NONE) after begin", x.network(-1), 0);
    }

    private static void randomMaps(Due due) {
        Random random = new Random(11);
        for (int k = 0; k < 300; k++) {
            int n = k < 20 ? 2 : k < 150 ? 3 : 4;
            PhaseCounts x = new PhaseCounts();
            Reference y = new Reference();
            x.begin(n);
            y.begin(n);
            wander(x, y, n, random, 25, false);
            for (int i = -2; i < 11; i++) {
                due.is("11: linear(" + i + ") of random map " + k, x.linear(i), y.linear(i));
            }
        }
    }

    private static void randomNetworks(Due due) {
        Random random = new Random(12);
        for (int k = 0; k < 400; k++) {
            int n = k < 40 ? 2 : 3;
            PhaseCounts x = new PhaseCounts();
            Reference y = new Reference();
            x.begin(n);
            y.begin(n);
            wander(x, y, n, random, 25, true);
            for (int i = -2; i < 11; i++) {
                due.is("12: network(" + i + ") of random run " + k, x.network(i), y.network(i));
            }
        }
    }

    private static void wander(PhaseCounts x, Reference y, int n, Random random, int steps, boolean turns) {
        for (int s = 0; s < steps; s++) {
            int a = random.nextInt(n);
            int b = random.nextInt(n);
            if (random.nextInt(8) == 0) {
                x.change(a, b);
                y.change(a, b);
            } else {
                x.join(a, b);
                y.join(a, b);
            }
            if (turns && random.nextInt(4) == 0) {
                int e = random.nextInt(15) - 7;
                x.turn(b, e);
                y.turn(b, e);
            }
        }
    }

    /** Every plan, done from wires at first, must give the map and have had each needed parity. */
    private static void plansLeadToTheMap(Due due) {
        Random random = new Random(13);
        for (int k = 0; k < 300; k++) {
            PhaseCounts x = new PhaseCounts();
            Reference y = new Reference();
            PhaseCounts z = new PhaseCounts();
            int n = 1 + k % 4;
            x.begin(n);
            y.begin(n);
            wander(x, y, n, random, 20, true);
            for (boolean linear : new boolean[] {true, false}) {
                if (n == 4 && !linear) continue;
                z.begin(n);
                Set<Integer> had = new HashSet<>();
                for (int w = 0; w < n; w++) had.add(1 << w);
                int length = linear ? x.linear(-1) : x.network(-1);
                for (int i = 0; i < length; i++) {
                    int number = linear ? x.linear(i) : x.network(i);
                    due.isTrue("11, 12: a plan's join " + number, z.join(number / 4, number % 4));
                    had.add(z.parity(number % 4));
                }
                for (int w = 0; w < n; w++) {
                    due.is("11, 12: parity(" + w + ") behind a plan", z.parity(w), x.parity(w));
                }
                for (int p = 1; p < 1 << n && !linear; p++) {
                    due.isTrue("12: parity " + p + " by the way", x.least(100 + p) == 0 || had.contains(p));
                }
            }
        }
    }
}
