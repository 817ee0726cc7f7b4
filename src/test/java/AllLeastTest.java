import java.util.Arrays;

/**
 * Promises 9, 10 and 13 for every function of one, two and three wires: all ways of phases are gone
 * through, as the document says it, and the least one of each function is kept.
 */
public final class AllLeastTest {
    public static void main(String[] args) {
        Due due = new Due();
        for (int n = 1; n <= 3; n++) new AllLeastTest(n).compareAll(due);
        due.end();
    }

    private final int n;
    private final int parityCount;
    // By function: its values for x from 1 on as digits of base 8, x = 0 being 0 always.
    private final int[] ways;
    private final int[] least;
    private final int[] given;

    private AllLeastTest(int n) {
        this.n = n;
        parityCount = (1 << n) - 1;
        int all = 1 << 3 * parityCount;
        ways = new int[all];
        least = new int[all];
        given = new int[all];
        for (int code = 0; code < all; code++) goThrough(code);
    }

    private void goThrough(int code) {
        int[] phases = phasesOf(code);
        int function = 0;
        for (int x = 1; x <= parityCount; x++) function = function * 8 + Reference.functionOf(phases, x);
        // Parity 1 is the first digit, so of equal ones that with lesser numbers has come before.
        if (ways[function] == 0 || rank(code) < rank(least[function])) least[function] = code;
        ways[function]++;
        given[function] = code;
    }

    private int[] phasesOf(int code) {
        int[] phases = new int[parityCount + 1];
        for (int p = 1; p <= parityCount; p++) phases[p] = code >> 3 * (parityCount - p) & 7;
        return phases;
    }

    private int rank(int code) {
        int[] phases = phasesOf(code);
        int rank = 0;
        for (int p = 1; p <= parityCount; p++) rank += (phases[p] % 2 != 0 ? 100 : 0) + (phases[p] != 0 ? 1 : 0);
        return rank;
    }

    private void compareAll(Due due) {
        for (int function = 0; function < ways.length; function++) {
            if (ways[function] == 0) continue;
            int[] best = phasesOf(least[function]);
            // The last of its ways, the most unlike the least one, and that one itself.
            compare(due, phasesOf(given[function]), best, rank(least[function]), ways[function]);
            compare(due, best, best, rank(least[function]), ways[function]);
        }
    }

    private void compare(Due due, int[] phases, int[] best, int rank, int waysOfIt) {
        PhaseCounts x = new PhaseCounts();
        x.begin(n);
        Runs.give(x, phases);
        String at = "of " + Arrays.toString(phases);
        due.is(at, "least 0", x.least(0), rank / 100);
        due.is(at, "least 1", x.least(1), rank % 100);
        int others = 0;
        for (int p = 1; p <= parityCount; p++) {
            due.is(at, "least of a parity", x.least(100 + p), best[p]);
            if (phases[p] != best[p]) others++;
        }
        due.is(at, "total 3", x.total(3), waysOfIt);
        due.is(at, "settle", x.settle(), others);
        for (int p = 1; p <= parityCount; p++) due.is(at, "phase behind settle", x.phase(p), best[p]);
        due.is(at, "settle again", x.settle(), 0);
    }
}
