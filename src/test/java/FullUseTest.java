import java.util.ArrayList;
import java.util.List;

/**
 * "An object is used for at most 512 calls after it has been made": the 512th is answered as the
 * first is. What an object answers late in a run is compared with what one answers that was just
 * brought to the same state.
 */
public final class FullUseTest {
    private static final int CALLS = 512;

    public static void main(String[] args) {
        Due due = new Due();
        lastTurn(due);
        lastJoin(due);
        lastChange(due);
        lastBegin(due);
        lastSettle(due);
        refusedCallsCountToo(due);
        sameAskAgainAndAgain(due);
        fourWiresAllAlong(due);
        threeWiresAllAlong(due);
        manyBegins(due);
        due.end();
    }

    private static void lastTurn(Due due) {
        PhaseCounts x = new PhaseCounts();
        for (int k = 1; k < CALLS; k++) due.isTrue("turn 0 7, call " + k, x.turn(0, 7));
        due.is("511 turns by 7, call 512", "phase 1", x.phase(1), 511 * 7 % 8);
        PhaseCounts y = new PhaseCounts();
        for (int k = 1; k < CALLS; k++) due.isTrue("turn 0 -7, call " + k, y.turn(0, -7));
        due.is("511 turns by -7, call 512", "phase 1", y.phase(1), 511 % 8);
    }

    private static void lastJoin(Due due) {
        PhaseCounts x = Call.done("begin 2");
        for (int k = 2; k < CALLS; k++) due.isTrue("join 0 1, call " + k, x.join(0, 1));
        due.is("510 joins, call 512", "parity 1", x.parity(1), 2);
        PhaseCounts y = Call.done("begin 2");
        for (int k = 2; k <= CALLS; k++) due.isTrue("join 0 1, call " + k, y.join(0, 1));
    }

    private static void lastChange(Due due) {
        PhaseCounts x = Call.done("begin 4; join 3 2");
        for (int k = 3; k < CALLS; k++) due.isTrue("change 0 3, call " + k, x.change(0, 3));
        due.is("509 changes, call 512", "linear NONE", x.linear(-1), Call.done("begin 4; join 3 2; change 0 3").linear(-1));
    }

    private static void lastBegin(Due due) {
        PhaseCounts x = new PhaseCounts();
        for (int k = 1; k < CALLS; k++) due.isTrue("begin, call " + k, x.begin(1 + k % 4));
        due.is("511 begins, call 512", "total 0", x.total(0), 4);
    }

    private static void lastSettle(Due due) {
        PhaseCounts x = Call.done(Runs.full(3, 6));
        int used = Call.run(Runs.full(3, 6)).size();
        due.is("the first", "settle", x.settle(), 7);
        for (int k = used + 2; k <= CALLS; k++) due.is("call " + k, "settle", x.settle(), 0);
    }

    private static void refusedCallsCountToo(Due due) {
        PhaseCounts x = Call.done("begin 3; join 0 1; turn 1 4");
        for (int k = 4; k < CALLS; k++) {
            boolean got = k % 4 == 0 ? x.begin(5) : k % 4 == 1 ? x.join(1, 1) : k % 4 == 2 ? x.change(0, 3) : x.turn(1, 8);
            due.isFalse("refused, call " + k, got);
        }
        due.is("508 refused, call 512", "phase 3", x.phase(3), 4);
    }

    private static void sameAskAgainAndAgain(Due due) {
        String state = "begin 4; change 0 1; change 1 2; change 2 3; turn 0 1";
        for (String ask : new String[] {"linear 8", "least 102", "least 0", "total 3", "function 15", "network -1"}) {
            Call call = Call.run(ask).get(0);
            int want = call.on(Call.doneByReference(state));
            PhaseCounts x = Call.done(state);
            for (int k = 6; k <= CALLS; k++) due.is("call " + k, call, call.on(x), want);
        }
    }

    private static void fourWiresAllAlong(Due due) {
        String[] steps = {"join 0 1", "turn 1 1", "join 1 2", "turn 2 3", "join 2 3", "turn 3 6", "join 3 0", "turn 0 -1"};
        String[] asks = {"linear -1", "least 0", "least 1", "linear 0", "least 115", "function 11", "linear 4", "phase 7", "total 2"};
        goOn(due, "begin 4", steps, asks);
    }

    private static void threeWiresAllAlong(Due due) {
        String[] steps = {"join 0 1", "turn 1 2", "join 1 2", "turn 2 3", "join 2 0", "turn 0 4", "change 0 1"};
        String[] asks = {"network -1", "network 0", "least 1", "network 3", "linear -1", "least 107", "total 1"};
        goOn(due, "begin 3", steps, asks);
    }

    private static void manyBegins(Due due) {
        String[] steps = {"begin 4", "join 0 3", "turn 3 5", "begin 3", "join 2 1", "turn 1 2", "begin 2", "change 0 1", "begin 1", "turn 0 3"};
        String[] asks = {"linear -1", "network -1", "least 1", "linear 0", "total 3", "network 0", "parity 0"};
        goOn(due, "begin 2", steps, asks);
    }

    /** Steps and asks in turn, 512 calls in all. */
    private static void goOn(Due due, String first, String[] steps, String[] asks) {
        List<Call> done = new ArrayList<>(Call.run(first));
        PhaseCounts x = Call.done(first);
        int calls = 1;
        for (int k = 0; calls + 2 <= CALLS; k++) {
            Call step = Call.run(steps[k % steps.length]).get(0);
            Call ask = Call.run(asks[k % asks.length]).get(0);
            due.is("call " + (calls + 1), step, step.on(x), 1);
            done.add(step);
            PhaseCounts fresh = new PhaseCounts();
            for (Call call : done) call.on(fresh);
            due.is("call " + (calls + 2), ask, ask.on(x), ask.on(fresh));
            calls += 2;
        }
        Call last = Call.run(asks[0]).get(0);
        PhaseCounts fresh = new PhaseCounts();
        for (Call call : done) call.on(fresh);
        due.is("call " + (calls + 1), last, last.on(x), last.on(fresh));
        due.is("calls in all", "", calls + 1, CALLS);
    }
}
