import java.util.Arrays;

/**
 * Circuits of exclusive ors and phases on one to four wires: which phase each exclusive or of
 * inputs gets, the least phases that come to the same, and the shortest plans of joins.
 */
public final class PhaseCounts {
    public static final int NONE = -1;

    private static final int MOST_WIRES = 4;
    private static final int MOST_PARITIES = 16;
    private static final int MOST_TURN = 7;
    private static final int PHASE_MASK = 7;
    private static final int LEAST_OF_PARITY = 100;

    private final int[] parities = new int[MOST_WIRES];
    private final int[] phases = new int[MOST_PARITIES];
    private final LeastPhases leastPhases = new LeastPhases();
    private final PlanSearch[] searches = new PlanSearch[MOST_WIRES + 1];
    private int wires;
    private boolean leastKnown;
    private int linearPlace;
    private int networkPlace;

    public PhaseCounts() {
        startWith(1);
    }

    public boolean begin(int n) {
        if (n < 1 || n > MOST_WIRES) {
            return false;
        }
        startWith(n);
        return true;
    }

    public boolean join(int a, int b) {
        if (!areTwoWires(a, b)) {
            return false;
        }
        parities[b] ^= parities[a];
        forgetPlans();
        return true;
    }

    public boolean change(int a, int b) {
        if (!areTwoWires(a, b)) {
            return false;
        }
        int kept = parities[a];
        parities[a] = parities[b];
        parities[b] = kept;
        forgetPlans();
        return true;
    }

    public boolean turn(int a, int e) {
        if (!isWire(a) || e < -MOST_TURN || e > MOST_TURN) {
            return false;
        }
        int turned = parities[a];
        phases[turned] = (phases[turned] + e) & PHASE_MASK;
        leastKnown = false;
        networkPlace = NONE;
        return true;
    }

    public int parity(int wire) {
        return isWire(wire) ? parities[wire] : NONE;
    }

    public int phase(int parity) {
        return isParity(parity) ? phases[parity] : NONE;
    }

    public int function(int x) {
        if (x < 0 || x > lastParity()) {
            return NONE;
        }
        int sum = 0;
        for (int p = 1; p <= lastParity(); p++) {
            if ((Integer.bitCount(p & x) & 1) != 0) {
                sum += phases[p];
            }
        }
        return sum & PHASE_MASK;
    }

    public int least(int what) {
        if (what == 0) {
            return knownLeast().odd;
        }
        if (what == 1) {
            return knownLeast().filled;
        }
        if (what > LEAST_OF_PARITY && isParity(what - LEAST_OF_PARITY)) {
            return knownLeast().best[what - LEAST_OF_PARITY];
        }
        return NONE;
    }

    public int settle() {
        int[] best = knownLeast().best;
        int others = 0;
        for (int p = 1; p <= lastParity(); p++) {
            if (phases[p] != best[p]) {
                phases[p] = best[p];
                others++;
            }
        }
        return others;
    }

    public int linear(int i) {
        PlanSearch search = searchForWires();
        if (linearPlace == NONE) {
            linearPlace = search.find(mapCode(), 0);
        }
        return search.answer(linearPlace, i);
    }

    public int network(int i) {
        if (wires == MOST_WIRES) {
            return NONE;
        }
        PlanSearch search = searchForWires();
        if (networkPlace == NONE) {
            networkPlace = search.find(mapCode(), neededParities());
        }
        return search.answer(networkPlace, i);
    }

    public int total(int what) {
        switch (what) {
            case 0:
                return wires;
            case 1:
                return countPhases(PHASE_MASK);
            case 2:
                return countPhases(1);
            case 3:
                return LeastPhases.countWays(wires);
            default:
                return NONE;
        }
    }

    private void startWith(int n) {
        wires = n;
        for (int w = 0; w < MOST_WIRES; w++) {
            parities[w] = 1 << w;
        }
        Arrays.fill(phases, 0);
        leastKnown = false;
        forgetPlans();
    }

    private void forgetPlans() {
        linearPlace = NONE;
        networkPlace = NONE;
    }

    private boolean isWire(int wire) {
        return wire >= 0 && wire < wires;
    }

    private boolean areTwoWires(int a, int b) {
        return isWire(a) && isWire(b) && a != b;
    }

    private boolean isParity(int number) {
        return number >= 1 && number <= lastParity();
    }

    private int lastParity() {
        return (1 << wires) - 1;
    }

    private int countPhases(int bits) {
        int count = 0;
        for (int p = 1; p <= lastParity(); p++) {
            if ((phases[p] & bits) != 0) {
                count++;
            }
        }
        return count;
    }

    private LeastPhases knownLeast() {
        if (!leastKnown) {
            leastPhases.find(phases, wires);
            leastKnown = true;
        }
        return leastPhases;
    }

    // A search is kept for each number of wires: what it has found so far holds for every map.
    private PlanSearch searchForWires() {
        if (searches[wires] == null) {
            searches[wires] = new PlanSearch(wires);
        }
        return searches[wires];
    }

    private int mapCode() {
        int code = 0;
        for (int w = 0; w < wires; w++) {
            code |= parities[w] << (w * wires);
        }
        return code;
    }

    private int neededParities() {
        int[] best = knownLeast().best;
        int needed = 0;
        for (int p = 1; p <= lastParity(); p++) {
            if (best[p] != 0) {
                needed |= 1 << (p - 1);
            }
        }
        return needed;
    }

    /**
     * The least of all phases with one function.
     *
     * Two kinds of steps keep the function, and together they reach all phases that have it:
     *
     * Fours: 4 more for each parity of a set whose exclusive or is empty. Any x has an odd number
     * of inputs in common with an even number of them, so the sum grows by a multiple of 8.
     *
     * Shifts: 1 more for each parity within a set of four inputs, or 2 more within a set of three.
     * Any x that has an input in common with the set has an odd number in common with 8 or 4 of
     * these parities, any other x with none, so the sum grows by 8 or 0.
     *
     * Only shifts change phases modulo 4; the fours behind a shift are chosen one by one.
     */
    private static final class LeastPhases {
        private static final int[] SHIFT_SET = {7, 11, 13, 14, 15, 15};
        private static final int[] SHIFT_SIZE = {2, 2, 2, 2, 2, 1};
        private static final int[] SHIFTS_OF_WIRES = {0, 0, 0, 1, 6};
        private static final int FOUR = 4;
        private static final int BELOW_FOUR = 3;
        private static final int TOO_MANY = 1000;

        final int[] best = new int[MOST_PARITIES];
        int odd;
        int filled;

        private final int[] tried = new int[MOST_PARITIES];
        // Row p, column s: how few of the phases from p on are not 0 if the exclusive or of
        // those parities among them that have a four is s.
        private final int[][] fewest = new int[MOST_PARITIES + 1][MOST_PARITIES];
        private int last;

        static int countWays(int wires) {
            int parityCount = (1 << wires) - 1;
            return 1 << (SHIFTS_OF_WIRES[wires] + parityCount - wires);
        }

        void find(int[] phases, int wires) {
            last = (1 << wires) - 1;
            odd = TOO_MANY;
            filled = TOO_MANY;
            System.arraycopy(phases, 0, tried, 0, MOST_PARITIES);
            lookAtTried();
            // The order of a Gray code: each shift but the last is undone modulo 4 by doing it
            // again, and the last one comes only once, so this meets all phases modulo 4.
            int ways = 1 << SHIFTS_OF_WIRES[wires];
            for (int k = 1; k < ways; k++) {
                shiftTried(Integer.numberOfTrailingZeros(k));
                lookAtTried();
            }
        }

        private void shiftTried(int shift) {
            int set = SHIFT_SET[shift];
            for (int p = 1; p <= last; p++) {
                if ((p & set) == p) {
                    tried[p] = (tried[p] + SHIFT_SIZE[shift]) & PHASE_MASK;
                }
            }
        }

        private void lookAtTried() {
            int oddNow = countTried(1);
            // No choice of fours makes these 0.
            int filledAtLeast = countTried(BELOW_FOUR);
            if (oddNow > odd || oddNow == odd && filledAtLeast > filled) {
                return;
            }
            int fours = exclusiveOrOfFours();
            fillFewest();
            int filledNow = fewest[1][fours];
            chooseFours(fours);
            if (oddNow < odd || filledNow < filled || filledNow == filled && triedComesFirst()) {
                odd = oddNow;
                filled = filledNow;
                System.arraycopy(tried, 0, best, 0, MOST_PARITIES);
            }
        }

        private int countTried(int bits) {
            int count = 0;
            for (int p = 1; p <= last; p++) {
                if ((tried[p] & bits) != 0) {
                    count++;
                }
            }
            return count;
        }

        private int exclusiveOrOfFours() {
            int fours = 0;
            for (int p = 1; p <= last; p++) {
                if ((tried[p] & FOUR) != 0) {
                    fours ^= p;
                }
            }
            return fours;
        }

        private void fillFewest() {
            Arrays.fill(fewest[last + 1], TOO_MANY);
            fewest[last + 1][0] = 0;
            for (int p = last; p >= 1; p--) {
                int[] row = fewest[p];
                int[] behind = fewest[p + 1];
                int without = costWithoutFour(p);
                for (int s = 0; s <= last; s++) {
                    row[s] = Math.min(behind[s] + without, behind[s ^ p] + 1);
                }
            }
        }

        private int costWithoutFour(int p) {
            return (tried[p] & BELOW_FOUR) == 0 ? 0 : 1;
        }

        // A four is left out wherever the fewest can still be had, so the lesser numbers stand first.
        private void chooseFours(int fours) {
            int left = fours;
            for (int p = 1; p <= last; p++) {
                int low = tried[p] & BELOW_FOUR;
                if (fewest[p + 1][left] + costWithoutFour(p) == fewest[p][left]) {
                    tried[p] = low;
                } else {
                    tried[p] = low + FOUR;
                    left ^= p;
                }
            }
        }

        private boolean triedComesFirst() {
            for (int p = 1; p <= last; p++) {
                if (tried[p] != best[p]) {
                    return tried[p] < best[p];
                }
            }
            return false;
        }
    }

    /**
     * What joins lead to, nearest first, and of the equally near that with the first numbers first.
     *
     * A state is a map (the parity of wire w at bit w * n) and, behind it, for fewer than four
     * wires a bit for each parity that a wire has had on the way. States stand in the order in
     * which they are met; as joins are tried by their numbers, the first way met to a state is
     * its shortest one whose numbers come first.
     */
    private static final class PlanSearch {
        private static final int[] STATES_OF_WIRES = {0, 1, 7, 859, 20160};
        private static final int JOIN_FACTOR = 4;
        private static final int STATE_SHIFT = 20;
        private static final int FROM_SHIFT = 4;
        private static final int FROM_MASK = 0xFFFF;
        private static final int JOIN_MASK = 0xF;
        private static final int WORD_SHIFT = 5;

        private final int wires;
        private final int mapBits;
        private final boolean marksParities;
        // State, place before it and join between them in one number, to keep the room small.
        private final long[] places;
        private final int[] met;
        private int count;
        private int spread;

        PlanSearch(int n) {
            wires = n;
            mapBits = n * n;
            marksParities = n < MOST_WIRES;
            int stateBits = mapBits + (marksParities ? (1 << n) - 1 : 0);
            places = new long[STATES_OF_WIRES[n]];
            met = new int[(1 << stateBits >> WORD_SHIFT) + 1];
            int start = 0;
            for (int w = 0; w < n; w++) {
                start = withParity(start, w, 1 << w);
            }
            meet(start, 0, 0);
        }

        /** The place of the first state with this map on whose way the needed parities were. */
        int find(int map, int needed) {
            int wanted = map | needed << mapBits;
            int looksAt = (1 << mapBits) - 1 | needed << mapBits;
            for (int i = 0; i < places.length && i < count; i++) {
                if ((stateAt(i) & looksAt) == wanted) {
                    return i;
                }
                if (i == spread) {
                    spreadFrom(i);
                    spread++;
                }
            }
            return NONE;
        }

        /** Of the way to a place: how many joins if i is NONE, else the number of the i-th. */
        int answer(int place, int i) {
            if (place < 0 || place >= count) {
                return NONE;
            }
            int length = lengthTo(place);
            if (i == NONE) {
                return length;
            }
            if (i < 0 || i >= length) {
                return NONE;
            }
            int at = place;
            for (int k = length - 1; k > i; k--) {
                at = fromAt(at);
            }
            return (int) places[at] & JOIN_MASK;
        }

        private int lengthTo(int place) {
            int length = 0;
            int at = place;
            while (at > 0 && length < places.length) {
                at = fromAt(at);
                length++;
            }
            return length;
        }

        private void spreadFrom(int place) {
            int state = stateAt(place);
            for (int a = 0; a < wires; a++) {
                for (int b = 0; b < wires; b++) {
                    if (a != b) {
                        int next = withParity(state, b, parityOf(state, a));
                        meet(next, place, JOIN_FACTOR * a + b);
                    }
                }
            }
        }

        private int parityOf(int state, int wire) {
            return state >> wire * wires & (1 << wires) - 1;
        }

        private int withParity(int state, int wire, int other) {
            int next = state ^ other << wire * wires;
            if (marksParities) {
                next |= 1 << mapBits + parityOf(next, wire) - 1;
            }
            return next;
        }

        private void meet(int state, int from, int joinNumber) {
            int word = state >> WORD_SHIFT;
            int bit = 1 << state;
            if ((met[word] & bit) == 0 && count < places.length) {
                met[word] |= bit;
                places[count] = (long) state << STATE_SHIFT | from << FROM_SHIFT | joinNumber;
                count++;
            }
        }

        private int stateAt(int place) {
            return (int) (places[place] >> STATE_SHIFT);
        }

        private int fromAt(int place) {
            return (int) (places[place] >> FROM_SHIFT) & FROM_MASK;
        }
    }
}
