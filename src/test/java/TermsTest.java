import java.util.Random;

/** The boundaries named under "Terms", each on both sides; one method for each sentence. */
public final class TermsTest {
    public static void main(String[] args) {
        Due due = new Due();
        numbersOfWires(due);
        wires(due);
        parities(due);
        paritiesAtFirst(due);
        paritiesAreNeverEmpty(due);
        phasesAtFirst(due);
        joined(due);
        changed(due);
        turnedModuloEight(due);
        turnedStaysWithTheParity(due);
        inputsOfTheFunction(due);
        functionModuloEight(due);
        oddNumbersInCommon(due);
        fewestOdd(due);
        fewestOddBeforeFewestNotZero(due);
        fewestNotZero(due);
        lesserNumbersFirst(due);
        leastOfEmptyAndFull(due);
        numbersOfJoins(due);
        shortestAndLongestLinearPlans(due);
        firstOfSeveralLinearPlans(due);
        networkUpToThreeWires(due);
        neededAtFirstOrBehindAJoin(due);
        neededByLeastPhases(due);
        firstOfSeveralNetworks(due);
        longestNetwork(due);
        due.end();
    }

    // "n is 1 .. 4"
    private static void numbersOfWires(Due due) {
        for (int n = -1; n <= 6; n++) {
            PhaseCounts x = Call.done("begin 3");
            boolean may = n >= 1 && n <= 4;
            due.is("n is 1 .. 4: begin " + n, x.begin(n) ? 1 : 0, may ? 1 : 0);
            due.is("n is 1 .. 4: total(0) after begin " + n, x.total(0), may ? n : 3);
        }
    }

    // "WIRES 0 .. n - 1"
    private static void wires(Due due) {
        for (int n = 1; n <= 4; n++) {
            for (int wire = -1; wire <= 5; wire++) {
                PhaseCounts x = Call.done("begin " + n);
                int is = wire >= 0 && wire < n ? 1 : 0;
                int other = wire == 0 ? n - 1 : 0;
                int isPair = is == 1 && wire != other ? 1 : 0;
                String at = "WIRES 0 .. n - 1, n is " + n + ", wire " + wire;
                due.is(at, "parity", x.parity(wire), is == 1 ? 1 << wire : -1);
                due.is(at, "turn", x.turn(wire, 1) ? 1 : 0, is);
                due.is(at, "join to it", x.join(other, wire) ? 1 : 0, isPair);
                due.is(at, "join from it", x.join(wire, other) ? 1 : 0, isPair);
                due.is(at, "change with it", x.change(other, wire) ? 1 : 0, isPair);
                due.is(at, "change it", x.change(wire, other) ? 1 : 0, isPair);
            }
        }
    }

    // "A PARITY is a set of inputs that is not empty (.. 1 .. 2^n - 1)"
    private static void parities(Due due) {
        for (int n = 1; n <= 4; n++) {
            PhaseCounts x = Call.done(Runs.full(n, 1));
            for (int p = -1; p <= 17; p++) {
                due.is("PARITY 1 .. 2^n - 1, n is " + n, "phase " + p, x.phase(p), p >= 1 && p < 1 << n ? 1 : -1);
            }
            for (int p = -1; p <= 17; p++) {
                boolean is = p >= 1 && p < 1 << n;
                PhaseCounts y = Call.done(is ? "begin " + n + Runs.one(p, 3) : Runs.full(n, 1));
                due.is("PARITY 1 .. 2^n - 1, n is " + n, "least 100 + " + p, y.least(100 + p), is ? 3 : -1);
            }
        }
    }

    // "each WIRE has one, at first that of its own input alone"
    private static void paritiesAtFirst(Due due) {
        for (int n = 1; n <= 4; n++) {
            PhaseCounts x = Call.done("begin 4; join 0 1; join 1 2; join 2 3; join 3 0; begin " + n);
            for (int w = 0; w <= 4; w++) {
                due.is("at first, n is " + n, "parity " + w, x.parity(w), w < n ? 1 << w : -1);
            }
        }
    }

    // "a set of inputs that is not empty": no calls make it so, and no two wires get the same.
    private static void paritiesAreNeverEmpty(Due due) {
        Random random = new Random(21);
        for (int n = 1; n <= 4; n++) {
            PhaseCounts x = Call.done("begin " + n);
            for (int k = 0; k < 100; k++) {
                if (k % 5 == 0) {
                    x.change(random.nextInt(n), random.nextInt(n));
                } else {
                    x.join(random.nextInt(n), random.nextInt(n));
                }
                int had = 0;
                for (int w = 0; w < n; w++) had |= 1 << x.parity(w);
                due.is("not empty, call " + k, "the parities of " + n, Integer.bitCount(had & (1 << (1 << n)) - 2), n);
            }
        }
    }

    // "PHASES: a number 0 .. 7 for each PARITY, at first 0"
    private static void phasesAtFirst(Due due) {
        for (int n = 1; n <= 4; n++) {
            PhaseCounts x = Call.done(Runs.full(4, 7) + "; begin " + n);
            for (int p = 1; p <= 16; p++) {
                due.is("at first, n is " + n, "phase " + p, x.phase(p), p < 1 << n ? 0 : -1);
            }
        }
    }

    // "JOINED a to b: b's PARITY becomes the exclusive or of both": twice is as if never.
    private static void joined(Due due) {
        PhaseCounts x = Call.done("begin 2; join 0 1");
        due.is("JOINED", "parity 1", x.parity(1), 3);
        due.is("JOINED", "parity 0", x.parity(0), 1);
        x.join(0, 1);
        due.is("JOINED twice", "parity 1", x.parity(1), 2);
        x = Call.done("begin 4; join 0 1; join 1 2; join 2 3");
        due.is("JOINED, all inputs", "parity 3", x.parity(3), 15);
        x.join(2, 3);
        due.is("JOINED, all but one taken out", "parity 3", x.parity(3), 8);
    }

    // "CHANGED: two change places": twice is as if never; neighbours, and the first with the last.
    private static void changed(Due due) {
        PhaseCounts x = Call.done("begin 4; change 0 3");
        int[] once = {8, 2, 4, 1};
        for (int w = 0; w < 4; w++) due.is("CHANGED", "parity " + w, x.parity(w), once[w]);
        x.change(3, 0);
        for (int w = 0; w < 4; w++) due.is("CHANGED back", "parity " + w, x.parity(w), 1 << w);
        x = Call.done("begin 2; turn 0 3; turn 1 5; change 0 1");
        due.is("CHANGED, phases stay", "phase 1", x.phase(1), 3);
        due.is("CHANGED, phases stay", "phase 2", x.phase(2), 5);
    }

    // "grows by e (all PHASES modulo 8)"
    private static void turnedModuloEight(Due due) {
        for (int start = 0; start < 8; start++) {
            for (int e = -7; e <= 7; e++) {
                PhaseCounts x = Call.done("turn 0 " + start);
                due.isTrue("TURNED: turn 0 " + e, x.turn(0, e));
                due.is("TURNED from " + start + " by " + e, "phase 1", x.phase(1), (start + e + 8) % 8);
                due.is("TURNED from " + start + " by " + e, "function 1", x.function(1), (start + e + 8) % 8);
                due.is("TURNED from " + start + " by " + e, "least 101", x.least(101), (start + e + 8) % 8);
            }
        }
    }

    // "the PHASE of a WIRE's PARITY": that of no other, be it the first or the last.
    private static void turnedStaysWithTheParity(Due due) {
        for (int p = 1; p < 16; p++) {
            PhaseCounts x = Call.done("begin 4" + Runs.one(p, -1));
            for (int q = 1; q < 16; q++) {
                due.is("TURNED, parity " + p, "phase " + q, x.phase(q), p == q ? 7 : 0);
            }
        }
    }

    // "THE FUNCTION of an input x (0 .. 2^n - 1)"
    private static void inputsOfTheFunction(Due due) {
        for (int n = 1; n <= 4; n++) {
            PhaseCounts x = Call.done("begin " + n + "; turn 0 5");
            for (int i = -2; i <= 17; i++) {
                int want = i < 0 || i >= 1 << n ? -1 : i % 2 == 0 ? 0 : 5;
                due.is("x 0 .. 2^n - 1, n is " + n, "function " + i, x.function(i), want);
            }
        }
    }

    // "the sum .. modulo 8": 7, 8 and 9, and the largest sum, 8 times 7.
    private static void functionModuloEight(Due due) {
        for (int e = 2; e <= 4; e++) {
            PhaseCounts x = Call.done("begin 2; turn 0 5; turn 1 " + e);
            due.is("sum modulo 8", "5 + " + e, x.function(3), (5 + e) % 8);
        }
        for (int n = 1; n <= 4; n++) {
            for (int e = 1; e < 8; e++) {
                PhaseCounts x = Call.done(Runs.full(n, e));
                due.is("sum modulo 8, none", "function 0", x.function(0), 0);
                for (int i = 1; i < 1 << n; i++) {
                    due.is("sum modulo 8, all " + e, "function " + i, x.function(i), (e << (n - 1)) % 8);
                }
            }
        }
    }

    // "that have an odd number of inputs in common with x": 0, 1, 2, 3 and 4 of them.
    private static void oddNumbersInCommon(Due due) {
        for (int p = 1; p < 16; p++) {
            PhaseCounts x = Call.done("begin 4" + Runs.one(p, 3));
            for (int i = 0; i < 16; i++) {
                int common = (p & i & 1) + (p & i & 2) / 2 + (p & i & 4) / 4 + (p & i & 8) / 8;
                due.is("odd number in common, parity " + p, "function " + i, x.function(i), common == 1 || common == 3 ? 3 : 0);
            }
        }
    }

    // "of which the fewest are odd": of four wires 7 odd ones stay, 8 become 7; of three, 7 stay.
    private static void fewestOdd(Due due) {
        for (int odd = 0; odd <= 15; odd++) {
            int[] phases = new int[16];
            for (int p = 1; p <= odd; p++) phases[p] = 1;
            due.is("fewest odd, four wires, " + odd, "least 0", Call.done(Runs.phases(4, phases)).least(0), Math.min(odd, 15 - odd));
        }
        for (int odd = 0; odd <= 7; odd++) {
            int[] phases = new int[8];
            for (int p = 1; p <= odd; p++) phases[p] = 1;
            due.is("fewest odd, three wires, " + odd, "least 0", Call.done(Runs.phases(3, phases)).least(0), odd);
        }
    }

    // "of several of which the fewest are not 0" comes second: 9 not 0 with 7 odd before 8 with 8.
    private static void fewestOddBeforeFewestNotZero(Due due) {
        int[] given = {0, 0, 0, 7, 3, 0, 7, 1, 7, 0, 0, 0, 7, 5, 1, 0};
        int[] least = {0, 1, 1, 2, 2, 1, 0, 0, 0, 7, 3, 5, 0, 0, 0, 5};
        due.is("odd before not 0", "total 1", Call.done(Runs.phases(4, given)).total(1), 8);
        isLeast(due, "odd before not 0", 4, given, least, 7, 9);
        isLeast(due, "odd before not 0, least already", 4, least, least, 7, 9);
    }

    // "of several of which the fewest are not 0"
    private static void fewestNotZero(Due due) {
        isLeast(due, "fewest not 0", 2, new int[] {0, 4, 0, 4}, new int[] {0, 0, 4, 0}, 0, 1);
        isLeast(due, "fewest not 0", 2, new int[] {0, 4, 0, 0}, new int[] {0, 4, 0, 0}, 0, 1);
        isLeast(due, "fewest not 0", 2, new int[] {0, 0, 1, 4}, new int[] {0, 0, 1, 4}, 1, 2);
        isLeast(due, "fewest not 0, lesser numbers later", 2, new int[] {0, 4, 5, 1}, new int[] {0, 0, 1, 5}, 2, 2);
        isLeast(due, "fewest not 0", 2, new int[] {0, 5, 4, 4}, new int[] {0, 1, 0, 0}, 1, 1);
        // Those that come first here have one more that is not 0.
        isLeast(due, "fewest not 0 before lesser numbers", 2, new int[] {0, 0, 4, 4}, new int[] {0, 4, 0, 0}, 0, 1);
        isLeast(due, "fewest not 0", 3, new int[] {0, 2, 2, 2, 2, 2, 2, 0}, new int[] {0, 0, 0, 0, 0, 0, 0, 6}, 0, 1);
    }

    // "whose numbers, PARITY 1 first, come first (the first that differs is the lesser one)"
    private static void lesserNumbersFirst(Due due) {
        isLeast(due, "lesser numbers", 2, new int[] {0, 5, 2, 3}, new int[] {0, 1, 6, 7}, 2, 3);
        isLeast(due, "lesser numbers, others are not", 2, new int[] {0, 1, 6, 7}, new int[] {0, 1, 6, 7}, 2, 3);
        isLeast(due, "1 differs", 3, new int[] {0, 7, 3, 0, 1, 7, 0, 6}, new int[] {0, 3, 3, 0, 5, 3, 0, 6}, 4, 5);
        isLeast(due, "2 differs", 3, new int[] {0, 3, 5, 7, 0, 1, 3, 1}, new int[] {0, 3, 1, 3, 0, 1, 7, 5}, 6, 6);
        isLeast(due, "3 differs", 3, new int[] {0, 2, 0, 7, 5, 5, 0, 5}, new int[] {0, 2, 0, 3, 1, 5, 0, 1}, 4, 5);
        isLeast(due, "4 differs", 3, new int[] {0, 0, 2, 3, 7, 7, 5, 5}, new int[] {0, 0, 2, 3, 3, 3, 1, 1}, 5, 6);
        isLeast(due, "none differs", 3, new int[] {0, 0, 3, 1, 3, 0, 5, 3}, new int[] {0, 0, 3, 1, 3, 0, 5, 3}, 5, 5);
    }

    private static void isLeast(Due due, String at, int n, int[] given, int[] least, int odd, int notZero) {
        PhaseCounts x = Call.done(Runs.phases(n, given));
        due.is(at, "least 0", x.least(0), odd);
        due.is(at, "least 1", x.least(1), notZero);
        for (int p = 1; p < 1 << n; p++) due.is(at, "least 100 + " + p, x.least(100 + p), least[p]);
    }

    // All 0, and all the same: where these come to nothing, and where they do not.
    private static void leastOfEmptyAndFull(Due due) {
        for (int n = 1; n <= 4; n++) {
            int all = (1 << n) - 1;
            for (int e = 0; e < 8; e++) {
                PhaseCounts x = Call.done(Runs.full(n, e));
                // 8, 4, 2 or 1 is the size that comes to nothing if all parities have it.
                int left = e % (8 >> (n - 1));
                due.is("all " + e + ", n is " + n, "least 0", x.least(0), left % 2 == 0 ? 0 : all);
                due.is("all " + e + ", n is " + n, "least 1", x.least(1), left == 0 ? 0 : all);
                for (int p = 1; p <= all; p++) {
                    due.is("all " + e + ", n is " + n, "least 100 + " + p, x.least(100 + p), left);
                }
            }
        }
    }

    // "a to b, numbered 4 * a + b"
    private static void numbersOfJoins(Due due) {
        for (int n = 2; n <= 4; n++) {
            for (int a = 0; a < n; a++) {
                for (int b = 0; b < n; b++) {
                    if (a == b) continue;
                    PhaseCounts x = Call.done("begin " + n + "; join " + a + " " + b);
                    isPlan(due, "numbered 4 * a + b", x, "linear", 4 * a + b);
                    if (n < 4) isPlan(due, "numbered 4 * a + b", x, "network", 4 * a + b);
                }
            }
        }
    }

    // "leads to THE MAP with the fewest JOINS": none at all, and the most that a map needs.
    private static void shortestAndLongestLinearPlans(Due due) {
        for (int n = 1; n <= 4; n++) {
            isPlan(due, "at first, n is " + n, Call.done("begin " + n), "linear");
        }
        isPlan(due, "joined twice", Call.done("begin 3; join 2 1; join 2 1"), "linear");
        isPlan(due, "longest, n is 2", Call.done("begin 2; change 0 1"), "linear", 1, 4, 1);
        isPlan(due, "longest, n is 3", Call.done("begin 3; change 0 1; change 1 2"), "linear", 1, 2, 4, 1, 9, 6);
        isPlan(due, "longest, n is 3", Call.done("begin 3; change 1 2; change 0 1"), "linear", 1, 2, 8, 2, 6, 9);
        isPlan(due, "longest, n is 4", Call.done("begin 4; change 0 1; change 1 2; change 2 3"), "linear",
            1, 2, 3, 4, 1, 9, 6, 14, 11);
        isPlan(due, "longest, n is 4", Call.done("begin 4; change 2 3; change 1 2; change 0 1"), "linear",
            1, 2, 3, 12, 3, 11, 6, 14, 9);
    }

    // "of several PLANS the one whose numbers come first"
    private static void firstOfSeveralLinearPlans(Due due) {
        isPlan(due, "several", Call.done("begin 4; join 2 3; join 0 1"), "linear", 1, 11);
        isPlan(due, "several", Call.done("begin 4; join 3 0; join 2 0; join 1 0"), "linear", 4, 8, 12);
        isPlan(due, "several, the first decides", Call.done("begin 2; change 1 0"), "linear", 1, 4, 1);
    }

    // "THE NETWORK (n at most 3)"
    private static void networkUpToThreeWires(Due due) {
        for (int n = 1; n <= 4; n++) {
            PhaseCounts x = Call.done("begin " + n + "; turn 0 1; join 0 " + (n - 1));
            due.is("n at most 3, n is " + n, "network -1", x.network(-1), n == 4 ? -1 : n == 1 ? 0 : 1);
            due.is("n at most 3, n is " + n, "network 0", x.network(0), n == 4 || n == 1 ? -1 : n - 1);
        }
    }

    // "is that of a WIRE at first, or behind a JOIN": at first, in the middle, behind the last one.
    private static void neededAtFirstOrBehindAJoin(Due due) {
        isPlan(due, "at first alone", Call.done("begin 2; turn 1 3; join 0 1"), "network", 1);
        isPlan(due, "behind the last", Call.done("begin 2; join 0 1; turn 1 3"), "network", 1);
        isPlan(due, "in the middle", Call.done("begin 2; join 0 1; turn 1 3; join 0 1"), "network", 1, 1);
        isPlan(due, "in the middle of three", Call.done("begin 3; join 0 1; join 1 2; turn 2 1; join 1 2; join 0 1"), "network",
            1, 6, 6, 1);
        isPlan(due, "by another way", Call.done("begin 3; join 0 2; join 1 2; turn 2 1; join 0 2"), "network", 2, 6, 2);
    }

    // "whose PHASE is not 0 in the LEAST PHASES": not in those given.
    private static void neededByLeastPhases(Due due) {
        isPlan(due, "given, not least", Call.done(Runs.phases(2, new int[] {0, 4, 4, 4})), "network");
        isPlan(due, "given and least", Call.done(Runs.phases(2, new int[] {0, 0, 0, 4})), "network", 1, 1);
        isPlan(due, "least, not given", Call.done(Runs.phases(2, new int[] {0, 4, 4, 0})), "network", 1, 1);
        isPlan(due, "least, not given", Call.done(Runs.phases(3, new int[] {0, 2, 2, 2, 2, 2, 2, 0})), "network", 1, 6, 6, 1);
    }

    // "of several PLANS the one whose numbers come first", for networks.
    private static void firstOfSeveralNetworks(Due due) {
        isPlan(due, "several networks", Call.done("begin 2; join 1 0; turn 0 1; join 1 0"), "network", 1, 1);
        isPlan(due, "several networks", Call.done("begin 3; join 2 1; turn 1 1; join 2 1"), "network", 6, 6);
        isPlan(due, "several networks", Call.done("begin 3; join 2 0; turn 0 2; join 2 0; join 1 0; turn 0 2; join 1 0"), "network",
            1, 1, 2, 2);
    }

    // The longest plan of all networks: seven joins, for three wires.
    private static void longestNetwork(Due due) {
        String state = Runs.phases(3, new int[] {0, 6, 4, 7, 2, 5, 7, 7}) + "; change 0 1; change 1 2";
        isPlan(due, "longest network", Call.done(state), "network", 1, 2, 4, 9, 2, 6, 1);
        isPlan(due, "its map alone", Call.done(state), "linear", 1, 2, 4, 1, 9, 6);
    }

    private static void isPlan(Due due, String at, PhaseCounts x, String name, int... joins) {
        due.is(at, name + " NONE", new Call(name, -1, 0).on(x), joins.length);
        for (int i = 0; i <= joins.length + 1; i++) {
            Call ask = new Call(name, i, 0);
            due.is(at, ask, ask.on(x), i < joins.length ? joins[i] : -1);
        }
    }
}
