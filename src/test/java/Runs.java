/** Runs of calls, as texts for Call, that lead to phases; the map stays as it was. */
final class Runs {
    private Runs() {
    }

    /** The same phase for all parities. */
    static String full(int n, int e) {
        int[] phases = new int[1 << n];
        java.util.Arrays.fill(phases, e);
        return phases(n, phases);
    }

    /** A phase for each parity; the number for 0 is not looked at. */
    static String phases(int n, int[] phases) {
        StringBuilder run = new StringBuilder("begin " + n);
        for (int p = 1; p < 1 << n; p++) run.append(one(p, phases[p]));
        return run.toString();
    }

    /** Brings a parity onto the wire of its last input, turns there, and undoes the joins. */
    static String one(int p, int e) {
        int top = 31 - Integer.numberOfLeadingZeros(p);
        StringBuilder joins = new StringBuilder();
        for (int w = 0; w < top; w++) {
            if ((p >> w & 1) != 0) joins.append("; join ").append(w).append(' ').append(top);
        }
        return joins + "; turn " + top + " " + e + joins;
    }

    /** As phases, done at once on wires at first. */
    static void give(PhaseCounts x, int[] phases) {
        for (int p = 1; p < phases.length; p++) {
            int top = 31 - Integer.numberOfLeadingZeros(p);
            for (int w = 0; w < top; w++) if ((p >> w & 1) != 0) x.join(w, top);
            x.turn(top, phases[p]);
            for (int w = 0; w < top; w++) if ((p >> w & 1) != 0) x.join(w, top);
        }
    }
}
