import java.util.HashMap;
import java.util.Map;
import java.util.TreeMap;

/** Promises 11 and 12 for every map of up to four wires and for every network. */
public final class AllPlansTest {
    private static final int[] MAPS = {0, 1, 6, 168, 20160};
    private static final int MAPS_OF_AN_OBJECT = 20;

    public static void main(String[] args) {
        Due due = new Due();
        for (int n = 1; n <= 4; n++) allLinearPlans(due, n);
        for (int n = 1; n <= 3; n++) allNetworks(due, n);
        due.end();
    }

    private static void allLinearPlans(Due due, int n) {
        Map<Integer, String> plans = plans(n, false);
        due.is("11", "maps of " + n, plans.size(), MAPS[n]);
        PhaseCounts x = null;
        int used = 0;
        for (String plan : plans.values()) {
            // A new object now and then, for each must not have more than 512 calls.
            if (used++ % MAPS_OF_AN_OBJECT == 0) x = new PhaseCounts();
            x.begin(n);
            // Not the plan alone: an object that kept the joins done would answer these.
            x.join(n - 1, 0);
            x.join(n - 1, 0);
            doJoins(x, plan);
            comparePlan(due, "11: [" + plan + "]", x, "linear", plan);
        }
    }

    private static void allNetworks(Due due, int n) {
        Map<Integer, String> ways = plans(n, true);
        Map<Integer, String> maps = plans(n, false);
        int all = (1 << (1 << n)) - 2;
        for (int needed = 0; needed <= all; needed += 2) {
            Map<Integer, String> shortest = shortestFor(ways, needed);
            due.is("12: needed " + needed, "maps of " + n, shortest.size(), MAPS[n]);
            int[] phases = oddFor(n, needed);
            for (Map.Entry<Integer, String> entry : shortest.entrySet()) {
                PhaseCounts x = new PhaseCounts();
                x.begin(n);
                Runs.give(x, phases);
                doJoins(x, maps.get(entry.getKey()));
                comparePlan(due, "12: needed " + needed, x, "network", entry.getValue());
            }
        }
    }

    /** Odd phases stay odd in the least ones of up to three wires, so these parities are needed. */
    private static int[] oddFor(int n, int needed) {
        int[] phases = new int[1 << n];
        for (int p = 1; p < 1 << n; p++) phases[p] = (needed >> p & 1) * (1 + 2 * (p % 4));
        return phases;
    }

    private static Map<Integer, String> shortestFor(Map<Integer, String> ways, int needed) {
        Map<Integer, String> shortest = new HashMap<>();
        for (Map.Entry<Integer, String> entry : ways.entrySet()) {
            int had = entry.getKey() >>> 16;
            if ((had & needed) == needed) {
                shortest.merge(entry.getKey() & 0xFFFF, entry.getValue(), AllPlansTest::firstOf);
            }
        }
        return shortest;
    }

    private static String firstOf(String one, String other) {
        if (one.length() != other.length()) return one.length() < other.length() ? one : other;
        return one.compareTo(other) <= 0 ? one : other;
    }

    /**
     * For each map (four bits a wire) the plan that is due, a hexadecimal digit for each join; if
     * asked for, apart for all parities that can have been met on the way (a bit each, from 2^16 on).
     */
    private static Map<Integer, String> plans(int n, boolean marks) {
        int start = 0;
        for (int w = 0; w < n; w++) start = marked(start | 1 << w << 4 * w, 1 << w, marks);
        Map<Integer, String> plans = new TreeMap<>();
        Map<Integer, String> level = new TreeMap<>();
        level.put(start, "");
        while (!level.isEmpty()) {
            plans.putAll(level);
            Map<Integer, String> next = new TreeMap<>();
            for (Map.Entry<Integer, String> entry : level.entrySet()) {
                for (int number = 0; number < 16; number++) {
                    if (number / 4 == number % 4 || number / 4 >= n || number % 4 >= n) continue;
                    int state = joined(entry.getKey(), number / 4, number % 4, marks);
                    if (plans.containsKey(state)) continue;
                    next.merge(state, entry.getValue() + Character.forDigit(number, 16), AllPlansTest::firstOf);
                }
            }
            level = next;
        }
        return plans;
    }

    private static int joined(int state, int a, int b, boolean marks) {
        int next = state ^ (state >> 4 * a & 15) << 4 * b;
        return marked(next, next >> 4 * b & 15, marks);
    }

    private static int marked(int state, int parity, boolean marks) {
        return marks ? state | 1 << 16 + parity : state;
    }

    private static void doJoins(PhaseCounts x, String plan) {
        for (int i = 0; i < plan.length(); i++) {
            int number = Character.digit(plan.charAt(i), 16);
            x.join(number / 4, number % 4);
        }
    }

    private static void comparePlan(Due due, String at, PhaseCounts x, String name, String plan) {
        due.is(at, name + " NONE", new Call(name, -1, 0).on(x), plan.length());
        for (int i = 0; i <= plan.length(); i++) {
            int want = i < plan.length() ? Character.digit(plan.charAt(i), 16) : -1;
            Call ask = new Call(name, i, 0);
            due.is(at, ask, ask.on(x), want);
        }
    }
}
