import java.util.ArrayList;
import java.util.List;

/** One call by its name, so that the same run can be done on the class and on the reference. */
record Call(String name, int a, int b) {
    /** Reads a run such as "begin 2; join 0 1; settle". */
    static List<Call> run(String text) {
        List<Call> calls = new ArrayList<>();
        for (String part : text.split(";")) {
            if (part.isBlank()) continue;
            String[] words = part.trim().split(" +");
            calls.add(new Call(words[0], number(words, 1), number(words, 2)));
        }
        return calls;
    }

    private static int number(String[] words, int i) {
        return i < words.length ? Integer.parseInt(words[i]) : 0;
    }

    static PhaseCounts done(String text) {
        PhaseCounts x = new PhaseCounts();
        for (Call call : run(text)) call.on(x);
        return x;
    }

    static Reference doneByReference(String text) {
        Reference y = new Reference();
        for (Call call : run(text)) call.on(y);
        return y;
    }

    int on(PhaseCounts x) {
        switch (name) {
            case "begin": return x.begin(a) ? 1 : 0;
            case "join": return x.join(a, b) ? 1 : 0;
            case "change": return x.change(a, b) ? 1 : 0;
            case "turn": return x.turn(a, b) ? 1 : 0;
            case "parity": return x.parity(a);
            case "phase": return x.phase(a);
            case "function": return x.function(a);
            case "least": return x.least(a);
            case "settle": return x.settle();
            case "linear": return x.linear(a);
            case "network": return x.network(a);
            case "total": return x.total(a);
            default: throw new IllegalArgumentException(name);
        }
    }

    int on(Reference y) {
        switch (name) {
            case "begin": return y.begin(a) ? 1 : 0;
            case "join": return y.join(a, b) ? 1 : 0;
            case "change": return y.change(a, b) ? 1 : 0;
            case "turn": return y.turn(a, b) ? 1 : 0;
            case "parity": return y.parity(a);
            case "phase": return y.phase(a);
            case "function": return y.function(a);
            case "least": return y.least(a);
            case "settle": return y.settle();
            case "linear": return y.linear(a);
            case "network": return y.network(a);
            case "total": return y.total(a);
            default: throw new IllegalArgumentException(name);
        }
    }

    @Override
    public String toString() {
        return name + " " + a + " " + b;
    }
}
