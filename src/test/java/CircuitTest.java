import java.util.Random;

/**
 * The document's first line, "circuits with the fewest exclusive ors for what goes where, and for
 * all phases by the way": a network's joins, with each least phase turned where its parity is met
 * first, are a circuit with the same parities and the same function.
 */
public final class CircuitTest {
    public static void main(String[] args) {
        Due due = new Due();
        Random random = new Random(31);
        for (int k = 0; k < 400; k++) {
            int n = 1 + k % 4;
            PhaseCounts x = given(random, n);
            String at = "circuit " + k;
            comesToTheSame(due, at, x, n);
            if (n < 4) {
                sameCircuit(due, at, x, n, network(x, n));
            } else {
                sameParities(due, at, x, n, linear(x, n));
            }
        }
        due.end();
    }

    private static PhaseCounts given(Random random, int n) {
        PhaseCounts x = new PhaseCounts();
        x.begin(n);
        for (int k = 0; k < 40; k++) {
            x.join(random.nextInt(n), random.nextInt(n));
            // All even in part of them: there the counts of those not 0 decide.
            x.turn(random.nextInt(n), n % 2 == 0 ? random.nextInt(8) : 2 * random.nextInt(4));
        }
        if (random.nextBoolean()) x.change(0, n - 1);
        return x;
    }

    // "of all ways to give phases that come to the same the one with the fewest costly ones"
    private static void comesToTheSame(Due due, String at, PhaseCounts x, int n) {
        int[] least = new int[1 << n];
        for (int p = 1; p < 1 << n; p++) least[p] = x.least(100 + p);
        for (int i = 0; i < 1 << n; i++) {
            due.is(at, "function " + i + " of the least phases", Reference.functionOf(least, i), x.function(i));
        }
        due.is(at, "no more odd ones", Math.max(x.least(0), x.total(2)), x.total(2));
    }

    private static PhaseCounts network(PhaseCounts x, int n) {
        PhaseCounts z = new PhaseCounts();
        z.begin(n);
        for (int w = 0; w < n; w++) turnIfFirst(x, z, w);
        int length = x.network(-1);
        for (int i = 0; i < length; i++) {
            int number = x.network(i);
            z.join(number / 4, number % 4);
            turnIfFirst(x, z, number % 4);
        }
        return z;
    }

    private static void turnIfFirst(PhaseCounts x, PhaseCounts z, int wire) {
        int p = z.parity(wire);
        if (z.phase(p) == 0) z.turn(wire, x.least(100 + p));
    }

    private static PhaseCounts linear(PhaseCounts x, int n) {
        PhaseCounts z = new PhaseCounts();
        z.begin(n);
        int length = x.linear(-1);
        for (int i = 0; i < length; i++) {
            int number = x.linear(i);
            z.join(number / 4, number % 4);
        }
        return z;
    }

    private static void sameCircuit(Due due, String at, PhaseCounts x, int n, PhaseCounts z) {
        sameParities(due, at, x, n, z);
        for (int p = 1; p < 1 << n; p++) due.is(at, "phase " + p, z.phase(p), x.least(100 + p));
        for (int i = 0; i < 1 << n; i++) due.is(at, "function " + i, z.function(i), x.function(i));
        due.is(at, "total 2", z.total(2), x.least(0));
        due.is(at, "total 1", z.total(1), x.least(1));
        due.is(at, "settle", z.settle(), 0);
    }

    private static void sameParities(Due due, String at, PhaseCounts x, int n, PhaseCounts z) {
        for (int w = 0; w < n; w++) due.is(at, "parity " + w, z.parity(w), x.parity(w));
    }
}
