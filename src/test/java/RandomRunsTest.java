import java.util.Random;

/** All promises together: runs of 512 calls, right and wrong ones, against the plain reference. */
public final class RandomRunsTest {
    private static final int CALLS = 512;
    private static final int[] FAR = {Integer.MIN_VALUE, -101, -9, -2, 17, 31, 99, 117, 200, Integer.MAX_VALUE};

    public static void main(String[] args) {
        Due due = new Due();
        for (int run = 0; run < 60; run++) {
            Random random = new Random(1000 + run);
            PhaseCounts x = new PhaseCounts();
            Reference y = new Reference();
            for (int k = 0; k < CALLS; k++) {
                call(due, "run " + run + ", call " + k + ": ", random, x, y);
            }
        }
        due.end();
    }

    private static int number(Random random, int from, int to) {
        return random.nextInt(30) == 0 ? FAR[random.nextInt(FAR.length)] : from + random.nextInt(to - from + 1);
    }

    private static void call(Due due, String at, Random random, PhaseCounts x, Reference y) {
        // Asked of the reference: an object of the class has no call to spare.
        int wires = y.total(0);
        int a = number(random, 0, wires - 1);
        int b = number(random, 0, wires - 1);
        int kind = random.nextInt(100);
        if (kind < 2) {
            int n = number(random, 0, 5);
            due.is(at + "begin(" + n + ")", x.begin(n) ? 1 : 0, y.begin(n) ? 1 : 0);
        } else if (kind < 30) {
            due.is(at + "join(" + a + ", " + b + ")", x.join(a, b) ? 1 : 0, y.join(a, b) ? 1 : 0);
        } else if (kind < 34) {
            due.is(at + "change(" + a + ", " + b + ")", x.change(a, b) ? 1 : 0, y.change(a, b) ? 1 : 0);
        } else if (kind < 54) {
            int e = number(random, -8, 8);
            due.is(at + "turn(" + a + ", " + e + ")", x.turn(a, e) ? 1 : 0, y.turn(a, e) ? 1 : 0);
        } else {
            ask(due, at, random, x, y, kind);
        }
    }

    private static void ask(Due due, String at, Random random, PhaseCounts x, Reference y, int kind) {
        int i = number(random, -1, 16);
        int what = random.nextInt(3) == 0 ? number(random, -1, 3) : number(random, 99, 116);
        int place = number(random, -2, 9);
        if (kind < 58) {
            due.is(at + "parity(" + i + ")", x.parity(i), y.parity(i));
        } else if (kind < 64) {
            due.is(at + "phase(" + i + ")", x.phase(i), y.phase(i));
        } else if (kind < 70) {
            due.is(at + "function(" + i + ")", x.function(i), y.function(i));
        } else if (kind < 78) {
            due.is(at + "least(" + what + ")", x.least(what), y.least(what));
        } else if (kind < 79) {
            due.is(at + "settle()", x.settle(), y.settle());
        } else if (kind < 85) {
            due.is(at + "linear(" + place + ")", x.linear(place), y.linear(place));
        } else if (kind < 94) {
            due.is(at + "network(" + place + ")", x.network(place), y.network(place));
        } else {
            int t = number(random, -1, 4);
            due.is(at + "total(" + t + ")", x.total(t), y.total(t));
        }
    }
}
