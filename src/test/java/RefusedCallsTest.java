import java.util.ArrayList;
import java.util.List;

/**
 * "False, changing nothing" of promises 2 to 5, and the asks answered by NONE of promises 6 to 13:
 * each refused call in each of some states, and then all that the object can be asked, at once and
 * after calls that are not refused. The answers due are those of the reference, which never gets
 * the refused call.
 */
public final class RefusedCallsTest {
    private static final int[] FAR = {Integer.MIN_VALUE, Integer.MIN_VALUE + 1, -33, -32, -16, -2, 5, 6, 8, 16, 31, 32,
        33, 64, 128, 256, 65536, Integer.MAX_VALUE - 1, Integer.MAX_VALUE};

    // Fresh ones; some whose least phases are other ones; some with the longest plans.
    private static final String[][] STATES = {
        {},
        {"", "turn 0 5"},
        {"begin 2", "begin 2; turn 0 4; turn 1 4; join 0 1; turn 1 4", "begin 2; turn 1 7; change 0 1; turn 1 6"},
        {"begin 3", "begin 3; turn 0 6; turn 1 4; join 0 1; turn 1 7; turn 2 2; join 0 2; turn 2 5; join 1 2; turn 2 2",
            "begin 3; join 0 1; turn 1 1; join 1 2; turn 2 3; join 0 1; join 0 2; join 1 2; change 0 1; change 1 2"},
        {"begin 4", "begin 4; turn 0 1; turn 1 1; turn 2 1; turn 3 1; join 0 1; turn 1 1; join 2 3; turn 3 1; join 1 3; turn 3 1",
            "begin 4; turn 0 3; turn 3 7; change 0 1; change 1 2; change 2 3; turn 2 4"},
    };

    public static void main(String[] args) {
        Due due = new Due();
        for (int n = 1; n <= 4; n++) {
            List<Call> refused = refusedCalls(n);
            for (String state : STATES[n]) {
                lookBehindEach(due, refused, state, n);
            }
        }
        due.end();
    }

    private static List<Call> refusedCalls(int n) {
        List<Call> calls = new ArrayList<>();
        addBegins(calls);
        addPairs(calls, "join", n);
        addPairs(calls, "change", n);
        addTurns(calls, n);
        addAsks(calls, n);
        return calls;
    }

    private static void addBegins(List<Call> calls) {
        add(calls, "begin", -1, 0, 5);
        add(calls, "begin", FAR);
    }

    private static void addPairs(List<Call> calls, String name, int n) {
        for (int w = 0; w < n; w++) {
            addPair(calls, name, w, -1);
            addPair(calls, name, w, n);
            calls.add(new Call(name, w, w));
        }
        addPair(calls, name, -1, n);
        calls.add(new Call(name, -1, -1));
        calls.add(new Call(name, n, n));
        addPair(calls, name, 0, 4);
        for (int far : FAR) {
            addPair(calls, name, n - 1, far);
            calls.add(new Call(name, far, far));
        }
    }

    private static void addPair(List<Call> calls, String name, int a, int b) {
        calls.add(new Call(name, a, b));
        calls.add(new Call(name, b, a));
    }

    private static void addTurns(List<Call> calls, int n) {
        for (int e : new int[] {-7, -1, 0, 1, 7}) {
            calls.add(new Call("turn", -1, e));
            calls.add(new Call("turn", n, e));
            calls.add(new Call("turn", 4, e));
        }
        for (int w = 0; w < n; w++) {
            calls.add(new Call("turn", w, 8));
            calls.add(new Call("turn", w, -8));
        }
        for (int e : new int[] {-17, -15, -9, 9, 15, 17}) calls.add(new Call("turn", 0, e));
        calls.add(new Call("turn", n, 8));
        calls.add(new Call("turn", -1, -8));
        for (int far : FAR) {
            calls.add(new Call("turn", far, 1));
            if (far < -7 || far > 7) calls.add(new Call("turn", 0, far));
        }
    }

    private static void addAsks(List<Call> calls, int n) {
        int beyond = 1 << n;
        add(calls, "parity", -2, -1, n, n + 1, 4);
        add(calls, "phase", -1, 0, beyond, beyond + 1, 16);
        add(calls, "function", -1, beyond, beyond + 1, 16);
        add(calls, "least", -2, -1, 2, 3, 15, 16, 99, 100, 100 + beyond, 116);
        add(calls, "linear", -2, 10, 100);
        add(calls, "network", -2, 10, 100);
        add(calls, "total", -2, -1, 4, 5);
        for (String name : new String[] {"parity", "phase", "function", "least", "linear", "network", "total"}) {
            add(calls, name, Integer.MIN_VALUE, Integer.MIN_VALUE + 1, Integer.MIN_VALUE + 100, Integer.MAX_VALUE);
        }
    }

    private static void add(List<Call> calls, String name, int... numbers) {
        for (int number : numbers) calls.add(new Call(name, number, 0));
    }

    private static void lookBehindEach(Due due, List<Call> refused, String state, int n) {
        String after = "turn 0 3; join 0 " + (n - 1) + "; change " + (n - 1) + " 0; settle; turn " + (n - 1) + " -1";
        int[] atOnce = Look.answers(Call.doneByReference(state));
        int[] later = Look.answers(Call.doneByReference(state + ";" + after));
        int[] begun = Look.answers(Call.doneByReference("begin 4"));
        for (Call call : refused) {
            for (boolean asked : new boolean[] {false, true}) {
                PhaseCounts x = Call.done(state);
                String at = "[" + state + "]" + (asked ? " asked," : ",");
                // What was asked before might be kept, and wrongly thrown away or changed.
                if (asked) Look.compare(due, at, x, atOnce);
                due.is(at, call, call.on(x), isAsk(call) ? -1 : 0);
                at = at + " then " + call + " refused, then";
                Look.compare(due, at, x, atOnce);
                for (Call next : Call.run(after)) next.on(x);
                Look.compare(due, at + " " + after, x, later);
                x.begin(4);
                Look.compare(due, at + " begin 4", x, begun);
            }
        }
    }

    private static boolean isAsk(Call call) {
        return !List.of("begin", "join", "change", "turn").contains(call.name());
    }
}
