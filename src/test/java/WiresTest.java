/** Promises 1 to 8: wires, their parities, phases, and the function. */
public final class WiresTest {
    private static final int[] FAR = {Integer.MIN_VALUE, -8, -1, 5, 16, 32, 64, Integer.MAX_VALUE};

    public static void main(String[] args) {
        Due due = new Due();
        newObject(due);
        begin(due);
        join(due);
        change(due);
        turn(due);
        wrongInputsChangeNothing(due);
        phasesStayWithParities(due);
        function(due);
        due.end();
    }

    private static void newObject(Due due) {
        PhaseCounts x = new PhaseCounts();
        due.is("1: NONE", PhaseCounts.NONE, -1);
        due.is("1: total(0)", x.total(0), 1);
        due.is("1: parity(0)", x.parity(0), 1);
        due.is("1: parity(1)", x.parity(1), -1);
        due.is("1: phase(1)", x.phase(1), 0);
        due.is("1: phase(2)", x.phase(2), -1);
        due.isFalse("1: join(0, 0)", x.join(0, 0));
        due.isFalse("1: join(0, 1)", x.join(0, 1));
        due.isFalse("1: change(0, 1)", x.change(0, 1));
        PhaseCounts other = new PhaseCounts();
        other.turn(0, 5);
        due.is("1: phase(1), another object turned", x.phase(1), 0);
    }

    private static void begin(Due due) {
        PhaseCounts x = new PhaseCounts();
        for (int n = 4; n >= 1; n--) {
            due.isTrue("2: begin(" + n + ")", x.begin(n));
            due.is("2: total(0)", x.total(0), n);
            for (int w = 0; w < 4; w++) {
                due.is("2: parity(" + w + ") of " + n, x.parity(w), w < n ? 1 << w : -1);
            }
            for (int p = 1; p < 16; p++) {
                due.is("2: phase(" + p + ") of " + n, x.phase(p), p < 1 << n ? 0 : -1);
            }
            for (int w = 0; w < n; w++) {
                x.turn(w, 3);
                x.join(w, (w + 1) % n);
            }
        }
        x.begin(3);
        x.join(0, 2);
        x.turn(2, 3);
        x.begin(3);
        due.is("2: phase(5) after begin(3) again", x.phase(5), 0);
        due.is("2: parity(2) after begin(3) again", x.parity(2), 4);
    }

    private static void join(Due due) {
        PhaseCounts x = new PhaseCounts();
        x.begin(4);
        due.isTrue("3: join(0, 3)", x.join(0, 3));
        due.is("3: parity(3)", x.parity(3), 9);
        due.is("3: parity(0)", x.parity(0), 1);
        due.isTrue("3: join(3, 1)", x.join(3, 1));
        due.is("3: parity(1)", x.parity(1), 11);
        due.isTrue("3: join(0, 3)", x.join(0, 3));
        due.is("3: parity(3) joined twice", x.parity(3), 8);
        due.is("3: parity(2)", x.parity(2), 4);
    }

    private static void change(Due due) {
        PhaseCounts x = new PhaseCounts();
        x.begin(3);
        x.join(0, 1);
        due.isTrue("4: change(1, 2)", x.change(1, 2));
        due.is("4: parity(0)", x.parity(0), 1);
        due.is("4: parity(1)", x.parity(1), 4);
        due.is("4: parity(2)", x.parity(2), 3);
        due.isTrue("4: change(2, 0)", x.change(2, 0));
        due.is("4: parity(0)", x.parity(0), 3);
        due.is("4: parity(2)", x.parity(2), 1);
    }

    private static void turn(Due due) {
        PhaseCounts x = new PhaseCounts();
        x.begin(2);
        int phase = 0;
        for (int e = -7; e <= 7; e++) {
            due.isTrue("5: turn(1, " + e + ")", x.turn(1, e));
            phase = Math.floorMod(phase + e, 8);
            due.is("5: phase(2)", x.phase(2), phase);
        }
        due.is("5: phase(1)", x.phase(1), 0);
        x.join(1, 0);
        x.turn(0, -1);
        due.is("5: phase(3)", x.phase(3), 7);
        due.is("5: phase(1)", x.phase(1), 0);
    }

    private static void wrongInputsChangeNothing(Due due) {
        for (int n = 1; n <= 4; n++) {
            PhaseCounts x = new PhaseCounts();
            x.begin(n);
            x.join(0, n - 1);
            x.turn(n - 1, 5);
            x.turn(0, 2);
            String before = Due.state(x);
            for (int far : FAR) {
                due.isFalse("2: begin(" + far + ")", x.begin(far));
                due.isFalse("3: join(" + far + ", 0)", x.join(far, 0));
                due.isFalse("3: join(0, " + far + ")", x.join(0, far));
                due.isFalse("4: change(" + far + ", 0)", x.change(far, 0));
                due.isFalse("4: change(0, " + far + ")", x.change(0, far));
                due.isFalse("5: turn(" + far + ", 1)", x.turn(far, 1));
                due.is("6: parity(" + far + ")", x.parity(far), -1);
                due.is("7: phase(" + far + ")", x.phase(far == 5 ? 0 : far), -1);
                due.is("8: function(" + far + ")", x.function(far == 5 ? 1 << n : far), -1);
            }
            due.isFalse("2: begin(0)", x.begin(0));
            for (int w = 0; w <= n; w++) {
                due.isFalse("3: join(w, w)", x.join(w, w));
                due.isFalse("3: join(w, n)", x.join(w, n));
                due.isFalse("3: join(n, w)", x.join(n, w));
                due.isFalse("4: change(w, w)", x.change(w, w));
                due.isFalse("4: change(w, n)", x.change(w, n));
                due.isFalse("4: change(n, w)", x.change(n, w));
            }
            due.isFalse("5: turn(n, 1)", x.turn(n, 1));
            for (int e : new int[] {8, -8, Integer.MAX_VALUE, Integer.MIN_VALUE}) {
                due.isFalse("5: turn(0, " + e + ")", x.turn(0, e));
            }
            due.is("6: parity(n)", x.parity(n), -1);
            due.is("7: phase(2^n)", x.phase(1 << n), -1);
            due.is("7: phase(0)", x.phase(0), -1);
            due.is("8: function(2^n)", x.function(1 << n), -1);
            due.same("2 to 5: refused calls", Due.state(x), before);
        }
    }

    private static void phasesStayWithParities(Due due) {
        PhaseCounts x = new PhaseCounts();
        x.begin(2);
        x.turn(0, 3);
        x.change(0, 1);
        due.is("7: phase(1) after change", x.phase(1), 3);
        x.turn(1, 2);
        due.is("7: phase(1) turned on wire 1", x.phase(1), 5);
        x.join(0, 1);
        due.is("7: phase(1) after join", x.phase(1), 5);
        due.is("7: phase(3) after join", x.phase(3), 0);
    }

    private static void function(Due due) {
        PhaseCounts x = new PhaseCounts();
        x.begin(3);
        x.turn(0, 1);
        x.turn(1, 2);
        x.join(0, 1);
        x.turn(1, 7);
        x.join(1, 2);
        x.turn(2, 4);
        int[] want = {0, 4, 5, 3, 4, 0, 1, 7};
        for (int i = 0; i < 8; i++) {
            due.is("8: function(" + i + ")", x.function(i), want[i]);
        }
    }
}
