/** The boundaries named in promises 1 to 13, each on both sides; one method for each sentence. */
public final class EdgesTest {
    private static final int[] FAR = {Integer.MIN_VALUE, Integer.MIN_VALUE + 1, -256, -32, 32, 33, 256, Integer.MAX_VALUE};
    private static final int[] WAYS = {0, 1, 2, 32, 131072};
    // Every wire's parity is another than at first, and so are the phases.
    private static final String[] USED = {"", "turn 0 3", "begin 2; join 0 1; turn 1 5; join 1 0; turn 0 2",
        "begin 3; join 0 1; turn 1 5; join 1 2; turn 2 2; join 2 0; turn 0 7",
        "begin 4; join 0 1; turn 1 5; join 1 2; turn 2 2; join 2 3; turn 3 6; join 3 0; turn 0 7"};

    public static void main(String[] args) {
        Due due = new Due();
        newObjectHasOneWire(due);
        newObjectsAreApart(due);
        beginFromOneToFour(due);
        beginIsAtFirst(due);
        joinOfAllPairs(due);
        changeOfAllPairs(due);
        turnOfAllWires(due);
        turnByAllNumbers(due);
        callsNotRefusedAreSeen(due);
        parityOfAllNumbers(due);
        phaseOfAllNumbers(due);
        functionOfAllNumbers(due);
        leastOfAllNumbers(due);
        leastOfParitiesFromOneToTheLast(due);
        leastCountsNoneAndAll(due);
        settleOfNoneSomeAndAll(due);
        settleHoldsFromNowOn(due);
        settleKeepsAllElse(due);
        linearOfAllNumbers(due);
        networkOfAllNumbers(due);
        networkOfFourWires(due);
        totalOfAllNumbers(due);
        totalCountsNoneAndAll(due);
        totalOfWays(due);
        due.end();
    }

    // 1: "One WIRE."
    private static void newObjectHasOneWire(Due due) {
        PhaseCounts x = new PhaseCounts();
        due.is("1", "total 0", x.total(0), 1);
        due.is("1", "parity 0", x.parity(0), 1);
        due.is("1", "parity 1", x.parity(1), -1);
        due.is("1", "phase 1", x.phase(1), 0);
        due.is("1", "phase 2", x.phase(2), -1);
        due.is("1", "function 0", x.function(0), 0);
        due.is("1", "function 1", x.function(1), 0);
        due.is("1", "function 2", x.function(2), -1);
        due.is("1", "least 0", x.least(0), 0);
        due.is("1", "least 1", x.least(1), 0);
        due.is("1", "least 101", x.least(101), 0);
        due.is("1", "least 102", x.least(102), -1);
        due.is("1", "linear NONE", x.linear(-1), 0);
        due.is("1", "linear 0", x.linear(0), -1);
        due.is("1", "network NONE", x.network(-1), 0);
        due.is("1", "network 0", x.network(0), -1);
        due.is("1", "total 3", x.total(3), 1);
        due.isFalse("1: turn 1 1", x.turn(1, 1));
        due.isTrue("1: turn 0 1", x.turn(0, 1));
        Look.compare(due, "1: as after begin 1", new PhaseCounts(), Call.doneByReference("begin 1"));
    }

    private static void newObjectsAreApart(Due due) {
        PhaseCounts used = Call.done(USED[4]);
        PhaseCounts fresh = new PhaseCounts();
        Look.compare(due, "1: beside a used object", fresh, new Reference());
        Look.compare(due, "1: a used object beside a new one", used, Call.doneByReference(USED[4]));
    }

    // 2: "n WIRES, at first: true; false, changing nothing, for another n."
    private static void beginFromOneToFour(Due due) {
        for (int from = 1; from <= 4; from++) {
            for (int n = -3; n <= 8; n++) begin(due, from, n);
            for (int n : FAR) begin(due, from, n);
        }
    }

    private static void begin(Due due, int from, int n) {
        PhaseCounts x = Call.done(USED[from]);
        boolean may = n >= 1 && n <= 4;
        due.is("2: from " + from, "begin " + n, x.begin(n) ? 1 : 0, may ? 1 : 0);
        due.is("2: from " + from + ", begin " + n, "total 0", x.total(0), may ? n : from);
        due.is("2: from " + from + ", begin " + n, "total 1", x.total(1), may ? 0 : from == 1 ? 1 : from);
        due.is("2: from " + from + ", begin " + n, "function 1", x.function(1), may ? 0 : Call.done(USED[from]).function(1));
    }

    // 2: "at first": nothing is left of what was before, with more wires, fewer, or as many.
    private static void beginIsAtFirst(Due due) {
        for (int n = 1; n <= 4; n++) {
            int[] want = Look.answers(Call.doneByReference("begin " + n));
            for (int from = 1; from <= 4; from++) {
                PhaseCounts x = Call.done(USED[from]);
                Look.compare(due, "2: used " + from, x, Call.doneByReference(USED[from]));
                x.begin(n);
                Look.compare(due, "2: from " + from + " to " + n, x, want);
                for (Call call : Call.run(USED[n])) call.on(x);
                Look.compare(due, "2: from " + from + " to " + n + ", used", x, Call.doneByReference(USED[n]));
            }
        }
    }

    // 3: "JOINED a to b: true; false, changing nothing, if there are no such WIRES, or a is b."
    private static void joinOfAllPairs(Due due) {
        for (int n = 1; n <= 4; n++) {
            int[] p = parities(n);
            for (int a = -2; a <= 5; a++) {
                for (int b = -2; b <= 5; b++) {
                    PhaseCounts x = Call.done(USED[n]);
                    boolean may = arePair(n, a, b);
                    String at = "3: n is " + n + ", join " + a + " " + b;
                    due.is(at, "join", x.join(a, b) ? 1 : 0, may ? 1 : 0);
                    for (int w = 0; w < n; w++) {
                        due.is(at, "parity " + w, x.parity(w), may && w == b ? p[a] ^ p[b] : p[w]);
                    }
                    due.is(at, "total 1", x.total(1), n);
                }
            }
        }
    }

    // 4: "CHANGED: likewise."
    private static void changeOfAllPairs(Due due) {
        for (int n = 1; n <= 4; n++) {
            int[] p = parities(n);
            for (int a = -2; a <= 5; a++) {
                for (int b = -2; b <= 5; b++) {
                    PhaseCounts x = Call.done(USED[n]);
                    boolean may = arePair(n, a, b);
                    String at = "4: n is " + n + ", change " + a + " " + b;
                    due.is(at, "change", x.change(a, b) ? 1 : 0, may ? 1 : 0);
                    for (int w = 0; w < n; w++) {
                        int from = !may ? w : w == a ? b : w == b ? a : w;
                        due.is(at, "parity " + w, x.parity(w), p[from]);
                    }
                    due.is(at, "total 1", x.total(1), n);
                }
            }
        }
    }

    private static boolean arePair(int n, int a, int b) {
        return a >= 0 && a < n && b >= 0 && b < n && a != b;
    }

    private static int[] parities(int n) {
        int[][] used = {{}, {1}, {2, 3}, {6, 3, 7}, {14, 3, 7, 15}};
        return used[n];
    }

    // 5: "if there is no such WIRE"
    private static void turnOfAllWires(Due due) {
        for (int n = 1; n <= 4; n++) {
            for (int a = -2; a <= 5; a++) {
                PhaseCounts x = Call.done("begin " + n);
                boolean may = a >= 0 && a < n;
                due.is("5: n is " + n, "turn " + a + " 3", x.turn(a, 3) ? 1 : 0, may ? 1 : 0);
                for (int p = 1; p < 1 << n; p++) {
                    due.is("5: n is " + n + ", turn " + a + " 3", "phase " + p, x.phase(p), may && p == 1 << a ? 3 : 0);
                }
            }
            for (int a : FAR) due.isFalse("5: turn " + a + " 1", Call.done("begin " + n).turn(a, 1));
        }
    }

    // 5: "e (-7 .. 7) .. or e": 8 would be nothing modulo 8, and is refused all the same.
    private static void turnByAllNumbers(Due due) {
        for (int start = 0; start < 8; start++) {
            for (int e = -20; e <= 20; e++) turnBy(due, start, e);
            for (int e : FAR) turnBy(due, start, e);
        }
    }

    private static void turnBy(Due due, int start, int e) {
        PhaseCounts x = Call.done("begin 2; join 0 1; turn 1 " + start);
        boolean may = e >= -7 && e <= 7;
        due.is("5: from " + start, "turn 1 " + e, x.turn(1, e) ? 1 : 0, may ? 1 : 0);
        due.is("5: from " + start + " by " + e, "phase 3", x.phase(3), may ? (start + e + 8) % 8 : start);
    }

    // 2 to 5 and 10, the other side of "changing nothing": what was asked before is asked anew.
    private static void callsNotRefusedAreSeen(Due due) {
        for (int n = 1; n <= 4; n++) {
            int last = n - 1;
            String[] calls = {"join 0 " + last, "join " + last + " 0", "change 0 " + last, "change " + last + " 0", "turn 0 1",
                "turn 0 -7", "turn " + last + " 7", "turn " + last + " 4", "settle", "begin " + n};
            for (String text : calls) {
                Call call = Call.run(text).get(0);
                PhaseCounts x = Call.done(USED[n]);
                Reference y = Call.doneByReference(USED[n]);
                Look.compare(due, "[" + USED[n] + "]", x, y);
                due.is("[" + USED[n] + "]", call, call.on(x), call.on(y));
                Look.compare(due, "[" + USED[n] + "] then " + call, x, y);
            }
        }
    }

    // 6: "NONE if there is none such."
    private static void parityOfAllNumbers(Due due) {
        for (int n = 1; n <= 4; n++) {
            PhaseCounts x = Call.done(USED[n]);
            for (int w = -3; w <= 8; w++) {
                due.is("6: n is " + n, "parity " + w, x.parity(w), w >= 0 && w < n ? parities(n)[w] : -1);
            }
            for (int w : FAR) due.is("6: n is " + n, "parity " + w, x.parity(w), -1);
        }
    }

    // 7: "NONE if there is none such."
    private static void phaseOfAllNumbers(Due due) {
        for (int n = 1; n <= 4; n++) {
            int[] phases = new int[1 << n];
            for (int p = 1; p < 1 << n; p++) phases[p] = 1 + p * 3 % 7;
            PhaseCounts x = Call.done(Runs.phases(n, phases));
            for (int p = -3; p <= 20; p++) {
                due.is("7: n is " + n, "phase " + p, x.phase(p), p >= 1 && p < 1 << n ? phases[p] : -1);
            }
            for (int p : FAR) due.is("7: n is " + n, "phase " + p, x.phase(p), -1);
        }
    }

    // 8: "NONE if there is no such x."
    private static void functionOfAllNumbers(Due due) {
        int[][] phases = {{}, {0, 5}, {0, 0, 2, 1}, {0, 0, 2, 1, 5, 4, 6, 2}};
        int[][] want = {{}, {0, 5}, {0, 1, 3, 2}, {0, 7, 3, 4, 1, 4, 4, 1}};
        for (int n = 1; n <= 3; n++) {
            PhaseCounts x = Call.done(Runs.phases(n, phases[n]));
            for (int i = -3; i <= 20; i++) {
                due.is("8: n is " + n, "function " + i, x.function(i), i >= 0 && i < 1 << n ? want[n][i] : -1);
            }
            for (int i : FAR) due.is("8: n is " + n, "function " + i, x.function(i), -1);
        }
        PhaseCounts x = Call.done("begin 4; turn 3 6");
        for (int i = -1; i <= 17; i++) {
            due.is("8: n is 4", "function " + i, x.function(i), i < 0 || i > 15 ? -1 : i < 8 ? 0 : 6);
        }
    }

    // 9: "what 0 .., 1 .., 100 + p .. NONE if there is none such."
    private static void leastOfAllNumbers(Due due) {
        for (int n = 1; n <= 4; n++) {
            PhaseCounts x = Call.done("begin " + n + "; turn 0 3; turn " + (n - 1) + " 3");
            int odd = n == 1 ? 0 : 2;
            int notZero = n == 1 ? 1 : 2;
            due.is("9: n is " + n, "least 0", x.least(0), odd);
            due.is("9: n is " + n, "least 1", x.least(1), notZero);
            for (int what = -20; what <= 260; what++) {
                boolean is = what == 0 || what == 1 || what > 100 && what < 100 + (1 << n);
                if (!is) due.is("9: n is " + n, "least " + what, x.least(what), -1);
            }
            for (int far : FAR) due.is("9: n is " + n, "least " + far, x.least(far), -1);
            due.is("9: n is " + n, "least MIN + 100", x.least(Integer.MIN_VALUE + 100), -1);
            due.is("9: n is " + n, "least MIN + 101", x.least(Integer.MIN_VALUE + 101), -1);
        }
    }

    // 9: "100 + p: that of PARITY p": one that stands alone is the least.
    private static void leastOfParitiesFromOneToTheLast(Due due) {
        for (int n = 1; n <= 4; n++) {
            for (int p = 1; p < 1 << n; p++) {
                PhaseCounts x = Call.done("begin " + n + Runs.one(p, p % 7 + 1));
                for (int q = 1; q < 1 << n; q++) {
                    due.is("9: parity " + p + " of " + n, "least 100 + " + q, x.least(100 + q), p == q ? p % 7 + 1 : 0);
                }
            }
        }
    }

    // 9: "how many are odd .. how many are not 0": none, the last alone, all that can be.
    private static void leastCountsNoneAndAll(Due due) {
        int[] mostOdd = {0, 1, 3, 7, 7};
        for (int n = 1; n <= 4; n++) {
            PhaseCounts x = Call.done("begin " + n);
            due.is("9: none of " + n, "least 0", x.least(0), 0);
            due.is("9: none of " + n, "least 1", x.least(1), 0);
            x = Call.done("begin " + n + Runs.one((1 << n) - 1, 2));
            due.is("9: the last of " + n + ", even", "least 0", x.least(0), 0);
            due.is("9: the last of " + n + ", even", "least 1", x.least(1), 1);
            x = Call.done("begin " + n + Runs.one((1 << n) - 1, 7));
            due.is("9: the last of " + n + ", odd", "least 0", x.least(0), 1);
            due.is("9: the last of " + n + ", odd", "least 1", x.least(1), 1);
            int[] phases = new int[1 << n];
            for (int p = 1; p <= mostOdd[n]; p++) phases[p] = 1;
            x = Call.done(Runs.phases(n, phases));
            due.is("9: all of " + n, "least 0", x.least(0), mostOdd[n]);
            due.is("9: all of " + n, "least 1", x.least(1), mostOdd[n]);
        }
    }

    // 10: "how many numbers are other ones"
    private static void settleOfNoneSomeAndAll(Due due) {
        for (int n = 1; n <= 4; n++) due.is("10: at first", "settle", Call.done("begin " + n).settle(), 0);
        for (int e = 0; e < 8; e++) due.is("10: one wire, " + e, "settle", Call.done("turn 0 " + e).settle(), 0);
        due.is("10: least already", "settle", Call.done("begin 2; turn 0 4").settle(), 0);
        due.is("10: all of 2", "settle", Call.done(Runs.full(2, 4)).settle(), 3);
        due.is("10: all of 3", "settle", Call.done(Runs.full(3, 2)).settle(), 7);
        due.is("10: all of 4", "settle", Call.done(Runs.full(4, 1)).settle(), 15);
        // Those of the three that 4, 4 and 4 are added to become others, no more.
        due.is("10: three of 3", "settle", Call.done("begin 3; turn 0 4; turn 1 4; turn 2 1; join 0 1; turn 1 4").settle(), 3);
        due.is("10: three of 4", "settle", Call.done("begin 4; turn 2 4; turn 3 4; join 2 3; turn 3 4").settle(), 3);
    }

    // 10: "PHASES are the LEAST PHASES from now on"
    private static void settleHoldsFromNowOn(Due due) {
        String[] states = {USED[1], USED[2], USED[3], USED[4], Runs.full(2, 7), Runs.full(3, 3), Runs.full(4, 5),
            Runs.phases(4, new int[] {0, 0, 0, 7, 3, 0, 7, 1, 7, 0, 0, 0, 7, 5, 1, 0})};
        for (String state : states) {
            PhaseCounts x = Call.done(state);
            Reference y = Call.doneByReference(state);
            due.is("10: [" + state + "]", "settle", x.settle(), y.settle());
            Look.compare(due, "10: [" + state + "] settled", x, y);
            for (int p = 1; p < 1 << x.total(0); p++) {
                due.is("10: [" + state + "] settled", "phase " + p, x.phase(p), x.least(100 + p));
            }
            due.is("10: [" + state + "] settled", "settle", x.settle(), 0);
            x.turn(0, 1);
            y.turn(0, 1);
            Look.compare(due, "10: [" + state + "] settled and turned", x, y);
        }
    }

    // 10: asking for the least phases is not settling; settling leaves the map and the function.
    private static void settleKeepsAllElse(Due due) {
        PhaseCounts x = Call.done(Runs.full(3, 6) + "; join 0 2");
        due.is("10: asked", "least 1", x.least(1), 0);
        due.is("10: asked", "phase 7", x.phase(7), 6);
        due.is("10: asked", "total 1", x.total(1), 7);
        due.is("10", "settle", x.settle(), 7);
        due.is("10: settled", "total 1", x.total(1), 0);
        due.is("10: settled", "parity 2", x.parity(2), 5);
        due.is("10: settled", "linear 0", x.linear(0), 2);
        due.is("10: settled", "total 0", x.total(0), 3);
        due.is("10: settled", "total 3", x.total(3), 32);
        for (int i = 0; i < 8; i++) due.is("10: settled", "function " + i, x.function(i), 0);
        x.begin(3);
        due.is("10: begun after settle", "settle", x.settle(), 0);
    }

    // 11: "i NONE: how many JOINS, else: the i-th one's number. NONE if there is none such."
    private static void linearOfAllNumbers(Due due) {
        isPlan(due, "11: one wire", "", "linear");
        isPlan(due, "11: two wires", "begin 2; change 0 1", "linear", 1, 4, 1);
        isPlan(due, "11: three wires", "begin 3; change 0 1; change 1 2", "linear", 1, 2, 4, 1, 9, 6);
        isPlan(due, "11: four wires", "begin 4; change 0 1; change 1 2; change 2 3", "linear", 1, 2, 3, 4, 1, 9, 6, 14, 11);
        isPlan(due, "11: none to do", "begin 4; join 3 2; join 3 2; turn 0 1", "linear");
        isPlan(due, "11: phases do not count", "begin 2; join 0 1; turn 1 1; join 0 1", "linear");
    }

    // 12: "likewise"
    private static void networkOfAllNumbers(Due due) {
        isPlan(due, "12: one wire", "turn 0 7", "network");
        isPlan(due, "12: two wires", "begin 2; change 0 1", "network", 1, 4, 1);
        isPlan(due, "12: two wires, a phase", "begin 2; join 0 1; turn 1 1; join 0 1", "network", 1, 1);
        isPlan(due, "12: three wires", "begin 3; change 0 1; change 1 2", "network", 1, 2, 4, 1, 9, 6);
        isPlan(due, "12: three wires, all phases", Runs.full(3, 1), "network", 1, 1, 2, 6, 2, 6);
        isPlan(due, "12: none to do", "begin 3; turn 0 1; turn 1 1; turn 2 1", "network");
    }

    private static void isPlan(Due due, String at, String state, String name, int... joins) {
        PhaseCounts x = Call.done(state);
        for (int i = -4; i <= joins.length + 20; i++) {
            Call ask = new Call(name, i, 0);
            int want = i == -1 ? joins.length : i >= 0 && i < joins.length ? joins[i] : -1;
            due.is(at, ask, ask.on(x), want);
        }
        for (int i : FAR) {
            Call ask = new Call(name, i, 0);
            due.is(at, ask, ask.on(x), -1);
        }
    }

    // 12: "NONE, too, if n is 4."
    private static void networkOfFourWires(Due due) {
        for (String state : new String[] {"begin 4", "begin 4; turn 0 1", "begin 4; join 0 1", USED[4], Runs.full(4, 1)}) {
            PhaseCounts x = Call.done(state);
            for (int i = -3; i <= 10; i++) due.is("12: [" + state + "]", "network " + i, x.network(i), -1);
            for (int i : FAR) due.is("12: [" + state + "]", "network " + i, x.network(i), -1);
            x.begin(3);
            due.is("12: three wires behind four", "network NONE", x.network(-1), 0);
            x.join(1, 2);
            due.is("12: three wires behind four", "network NONE", x.network(-1), 1);
            due.is("12: three wires behind four", "network 0", x.network(0), 6);
            x.begin(4);
            due.is("12: four wires behind three", "network NONE", x.network(-1), -1);
            due.is("12: four wires behind three", "network 0", x.network(0), -1);
        }
    }

    // 13: "NONE for another what."
    private static void totalOfAllNumbers(Due due) {
        for (int n = 1; n <= 4; n++) {
            PhaseCounts x = Call.done(Runs.full(n, 3));
            int[] want = {n, (1 << n) - 1, (1 << n) - 1, WAYS[n]};
            for (int what = -10; what <= 120; what++) {
                due.is("13: n is " + n, "total " + what, x.total(what), what >= 0 && what <= 3 ? want[what] : -1);
            }
            for (int what : FAR) due.is("13: n is " + n, "total " + what, x.total(what), -1);
        }
    }

    // 13: "1: how many PHASES are not 0, 2: how many are odd": none, one at either end, all.
    private static void totalCountsNoneAndAll(Due due) {
        for (int n = 1; n <= 4; n++) {
            int all = (1 << n) - 1;
            for (int e = 0; e < 8; e++) {
                counts(due, n, Runs.full(n, e), e == 0 ? 0 : all, e % 2 == 0 ? 0 : all);
                counts(due, n, "begin " + n + Runs.one(1, e), e == 0 ? 0 : 1, e % 2);
                counts(due, n, "begin " + n + Runs.one(all, e), e == 0 ? 0 : 1, e % 2);
                // Back to 0, by going on or by going back.
                counts(due, n, "begin " + n + Runs.one(all, e) + Runs.one(all, -e), 0, 0);
                if (e > 0) counts(due, n, "begin " + n + Runs.one(all, e) + Runs.one(all, 8 - e), 0, 0);
            }
        }
    }

    private static void counts(Due due, int n, String state, int notZero, int odd) {
        PhaseCounts x = Call.done(state);
        due.is("13: [" + state + "]", "total 1", x.total(1), notZero);
        due.is("13: [" + state + "]", "total 2", x.total(2), odd);
        due.is("13: [" + state + "]", "total 0", x.total(0), n);
    }

    // 13: "how many ways of PHASES have this FUNCTION": as many for each function.
    private static void totalOfWays(Due due) {
        for (int n = 1; n <= 4; n++) {
            due.is("13: counted apart", "ways of " + n, Reference.ways(n), WAYS[n]);
            for (String state : new String[] {"begin " + n, USED[n], USED[n] + "; settle", Runs.full(n, 7)}) {
                due.is("13: [" + state + "]", "total 3", Call.done(state).total(3), WAYS[n]);
            }
        }
    }
}
