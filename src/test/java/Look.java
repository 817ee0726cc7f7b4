import java.util.ArrayList;
import java.util.List;

/** All that an object can be asked, on both sides of every boundary: some hundred calls. */
final class Look {
    private static final List<Call> ASKS = asks();

    private Look() {
    }

    private static List<Call> asks() {
        List<Call> asks = new ArrayList<>();
        add(asks, "total", -1, 4);
        add(asks, "parity", -1, 4);
        add(asks, "phase", -1, 16);
        add(asks, "function", -1, 16);
        add(asks, "least", -1, 2);
        add(asks, "least", 99, 116);
        // No plan has more than nine joins.
        add(asks, "linear", -2, 9);
        add(asks, "network", -2, 9);
        return asks;
    }

    private static void add(List<Call> asks, String name, int from, int to) {
        for (int i = from; i <= to; i++) asks.add(new Call(name, i, 0));
    }

    static int[] answers(Reference y) {
        int[] answers = new int[ASKS.size()];
        for (int i = 0; i < answers.length; i++) answers[i] = ASKS.get(i).on(y);
        return answers;
    }

    static void compare(Due due, String at, PhaseCounts x, int[] want) {
        for (int i = 0; i < want.length; i++) {
            Call ask = ASKS.get(i);
            due.is(at, ask, ask.on(x), want[i]);
        }
    }

    static void compare(Due due, String at, PhaseCounts x, Reference y) {
        compare(due, at, x, answers(y));
    }
}
