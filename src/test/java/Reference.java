import java.util.ArrayList;
import java.util.HashMap;
import java.util.HashSet;
import java.util.List;
import java.util.Map;
import java.util.Set;
import java.util.TreeMap;

/** The document's words taken plainly and slowly: all ways of phases, all plans level by level. */
final class Reference {
    private static final int[][][] STILL = new int[5][][];
    private static final Map<String, String> PLANS = new HashMap<>();

    private int n = 1;
    private int[] parities = {1};
    private int[] phases = new int[2];
    private int[] leastPhases;

    boolean begin(int wires) {
        if (wires < 1 || wires > 4) return false;
        n = wires;
        parities = new int[n];
        for (int w = 0; w < n; w++) parities[w] = 1 << w;
        phases = new int[1 << n];
        leastPhases = null;
        return true;
    }

    boolean join(int a, int b) {
        if (a < 0 || b < 0 || a >= n || b >= n || a == b) return false;
        parities[b] ^= parities[a];
        return true;
    }

    boolean change(int a, int b) {
        if (a < 0 || b < 0 || a >= n || b >= n || a == b) return false;
        int kept = parities[a];
        parities[a] = parities[b];
        parities[b] = kept;
        return true;
    }

    boolean turn(int a, int e) {
        if (a < 0 || a >= n || e < -7 || e > 7) return false;
        phases[parities[a]] = Math.floorMod(phases[parities[a]] + e, 8);
        leastPhases = null;
        return true;
    }

    int parity(int wire) {
        return wire < 0 || wire >= n ? -1 : parities[wire];
    }

    int phase(int p) {
        return p < 1 || p >= 1 << n ? -1 : phases[p];
    }

    int function(int x) {
        return x < 0 || x >= 1 << n ? -1 : functionOf(phases, x);
    }

    int least(int what) {
        int[] best = least();
        if (what == 0) return count(best, 1);
        if (what == 1) return count(best, 7);
        return what >= 101 && what < 100 + (1 << n) ? best[what - 100] : -1;
    }

    int settle() {
        int[] best = least();
        int others = 0;
        for (int p = 1; p < phases.length; p++) {
            if (best[p] != phases[p]) others++;
        }
        phases = best.clone();
        return others;
    }

    int linear(int i) {
        return ofPlan(plan(n, parities, Set.of()), i);
    }

    int network(int i) {
        if (n == 4) return -1;
        Set<Integer> needed = new HashSet<>();
        for (int p = 1; p < 1 << n; p++) {
            if (least()[p] != 0) needed.add(p);
        }
        return ofPlan(plan(n, parities, needed), i);
    }

    int total(int what) {
        switch (what) {
            case 0: return n;
            case 1: return count(phases, 7);
            case 2: return count(phases, 1);
            case 3: return still(n).length;
            default: return -1;
        }
    }

    static int functionOf(int[] phases, int x) {
        int sum = 0;
        for (int p = 1; p < phases.length; p++) {
            sum += phases[p] * (Integer.bitCount(p & x) % 2);
        }
        return sum % 8;
    }

    private static int count(int[] phases, int bits) {
        int count = 0;
        for (int p = 1; p < phases.length; p++) {
            if ((phases[p] & bits) != 0) count++;
        }
        return count;
    }

    private int[] least() {
        if (leastPhases == null) {
            leastPhases = phases.clone();
            int[] other = new int[phases.length];
            for (int[] way : still(n)) {
                for (int p = 1; p < other.length; p++) other[p] = (phases[p] + way[p]) % 8;
                if (isLess(other, leastPhases)) leastPhases = other.clone();
            }
        }
        return leastPhases;
    }

    private static boolean isLess(int[] one, int[] other) {
        for (int bits : new int[] {1, 7}) {
            int difference = count(one, bits) - count(other, bits);
            if (difference != 0) return difference < 0;
        }
        for (int p = 1; p < one.length; p++) {
            if (one[p] != other[p]) return one[p] < other[p];
        }
        return false;
    }

    /** All phases whose function is 0 for all x. */
    static int[][] still(int n) {
        if (STILL[n] == null) STILL[n] = n < 4 ? stillByTrying(n) : stillOfFour();
        return STILL[n];
    }

    private static boolean isStill(int[] phases) {
        for (int x = 1; x < phases.length; x++) {
            if (functionOf(phases, x) != 0) return false;
        }
        return true;
    }

    private static int[][] stillByTrying(int n) {
        List<int[]> found = new ArrayList<>();
        int parityCount = (1 << n) - 1;
        for (int code = 0; code < 1 << 3 * parityCount; code++) {
            int[] phases = new int[parityCount + 1];
            for (int p = 1; p <= parityCount; p++) phases[p] = code >> 3 * (p - 1) & 7;
            if (isStill(phases)) found.add(phases);
        }
        return found.toArray(new int[0][]);
    }

    /**
     * Sums of those for three wires, put on every three parities of four wires, and one on all 15;
     * each is tried, and that there are as many as there must be shows that none is missing.
     */
    private static int[][] stillOfFour() {
        Set<Long> all = new HashSet<>();
        List<int[]> list = new ArrayList<>();
        list.add(new int[16]);
        all.add(0L);
        for (int[] seed : seedsOfFour()) {
            if (!isStill(seed)) throw new IllegalStateException("a seed changes the function");
            if (all.contains(packed(seed))) continue;
            int before = list.size();
            for (int times = 1; times < 8; times++) {
                for (int i = 0; i < before; i++) {
                    int[] sum = new int[16];
                    for (int p = 1; p < 16; p++) sum[p] = (list.get(i)[p] + times * seed[p]) % 8;
                    if (all.add(packed(sum))) list.add(sum);
                }
            }
        }
        if (list.size() != ways(4)) throw new IllegalStateException("ways of four wires: " + list.size());
        return list.toArray(new int[0][]);
    }

    /**
     * How many phases have the function 0, without listing them: the table of which parities count
     * for which x is made diagonal modulo 8, and of 8 values those that a number on the diagonal
     * makes 0 are 1, 2, 4 or 8.
     */
    static int ways(int n) {
        int size = (1 << n) - 1;
        int[][] table = new int[size][size];
        for (int i = 0; i < size * size; i++) {
            table[i / size][i % size] = Integer.bitCount(i / size + 1 & i % size + 1) % 2;
        }
        int ways = 1;
        for (int k = 0; k < size; k++) {
            bringLeastTo(table, k);
            ways *= twos(table[k][k]);
            for (int r = k + 1; r < size; r++) {
                int times = 0;
                while ((table[r][k] - times * table[k][k]) % 8 != 0) times++;
                for (int c = k; c < size; c++) table[r][c] = Math.floorMod(table[r][c] - times * table[k][c], 8);
            }
        }
        return ways;
    }

    /** How many times 2 is in a number modulo 8, as 1, 2, 4 or 8. */
    private static int twos(int number) {
        return Integer.lowestOneBit(number | 8);
    }

    private static void bringLeastTo(int[][] table, int k) {
        int row = k;
        int column = k;
        for (int r = k; r < table.length; r++) {
            for (int c = k; c < table.length; c++) {
                if (twos(table[r][c]) < twos(table[row][column])) {
                    row = r;
                    column = c;
                }
            }
        }
        int[] kept = table[k];
        table[k] = table[row];
        table[row] = kept;
        for (int[] line : table) {
            int number = line[k];
            line[k] = line[column];
            line[column] = number;
        }
    }

    private static List<int[]> seedsOfFour() {
        List<int[]> seeds = new ArrayList<>();
        int[] whole = new int[16];
        for (int p = 1; p < 16; p++) whole[p] = Integer.bitCount(p) % 2 == 0 ? 1 : 7;
        seeds.add(whole);
        for (int a = 1; a < 16; a++) {
            for (int b = a + 1; b < 16; b++) {
                for (int c = b + 1; c < 16; c++) {
                    if ((a ^ b) == c) continue;
                    for (int[] three : still(3)) {
                        int[] seed = new int[16];
                        for (int p = 1; p < 8; p++) {
                            seed[(p & 1) * a ^ (p >> 1 & 1) * b ^ (p >> 2) * c] = three[p];
                        }
                        seeds.add(seed);
                    }
                }
            }
        }
        return seeds;
    }

    private static long packed(int[] phases) {
        long code = 0;
        for (int phase : phases) code = code << 3 | phase;
        return code;
    }

    private static int ofPlan(String plan, int i) {
        if (i == -1) return plan.length();
        return i < 0 || i >= plan.length() ? -1 : Character.digit(plan.charAt(i), 16);
    }

    /** The joins of a plan, each as a hexadecimal digit, so that texts compare as plans do. */
    private static String plan(int n, int[] goal, Set<Integer> needed) {
        int covered = 0;
        for (int p : needed) covered |= 1 << p;
        String key = n + " " + java.util.Arrays.toString(goal) + " " + covered;
        if (!PLANS.containsKey(key)) PLANS.put(key, searchPlan(n, goal, covered));
        return PLANS.get(key);
    }

    private static String searchPlan(int n, int[] goal, int needed) {
        long wanted = code(goal, needed);
        int[] first = new int[n];
        int at = 0;
        for (int w = 0; w < n; w++) {
            first[w] = 1 << w;
            at |= 1 << first[w];
        }
        Set<Long> met = new HashSet<>();
        Map<Long, String> level = new TreeMap<>();
        level.put(code(first, at & needed), "");
        while (!level.containsKey(wanted)) {
            met.addAll(level.keySet());
            Map<Long, String> next = new TreeMap<>();
            for (Map.Entry<Long, String> entry : level.entrySet()) {
                addNext(n, entry, needed, met, next);
            }
            if (next.isEmpty()) throw new IllegalStateException("no plan");
            level = next;
        }
        return level.get(wanted);
    }

    private static void addNext(int n, Map.Entry<Long, String> entry, int needed, Set<Long> met, Map<Long, String> next) {
        for (int number = 0; number < 16; number++) {
            int a = number / 4;
            int b = number % 4;
            if (a == b || a >= n || b >= n) continue;
            int[] map = new int[n];
            for (int w = 0; w < n; w++) map[w] = (int) (entry.getKey() >> 4 * w & 15);
            map[b] ^= map[a];
            int had = (int) (entry.getKey() >> 16) | 1 << map[b] & needed;
            long code = code(map, had);
            if (!met.contains(code)) {
                String way = entry.getValue() + Character.forDigit(number, 16);
                next.merge(code, way, (one, other) -> one.compareTo(other) <= 0 ? one : other);
            }
        }
    }

    private static long code(int[] map, int had) {
        long code = (long) had << 16;
        for (int w = 0; w < map.length; w++) code |= (long) map[w] << 4 * w;
        return code;
    }
}
