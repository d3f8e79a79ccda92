import java.util.ArrayList;
import java.util.List;

/** All that a state shows, asked on as many objects as it takes to stay within the calls of each. */
final class View {
    private final List<Call> queries = new ArrayList<>();
    private final List<Long> answers = new ArrayList<>();
    private final ReferenceText y;

    /** The reference tells how far the rows of the state go, and what is due. */
    View(ReferenceText y) {
        this.y = y;
        for (int r = 0; r < 3; r++) {
            addSite(r);
        }
        for (int m = 0; m < 6; m++) {
            add("octets", m);
            addRow("octet", m, y.octets(m));
        }
        for (int a = 0; a < 3; a++) {
            for (int b = 0; b < 3; b++) {
                add("believed", a, b);
                addAncestors(a, b);
            }
        }
    }

    private void add(String name, int... arguments) {
        Call call = new Call(name, arguments);
        queries.add(call);
        answers.add(call.ask(y));
    }

    private void addSite(int r) {
        for (String name : List.of("length", "events", "heads", "critical", "replayed", "moves")) {
            add(name, r);
        }
        addRow("at", r, y.length(r));
        addRow("head", r, y.heads(r));
        addRow("operation", r, operations(r));
    }

    /** With the first that is not in the row. */
    private void addRow(String name, int of, int size) {
        for (int k = 0; k <= size; k++) {
            add(name, of, k);
        }
    }

    private int operations(int r) {
        int size = 0;
        while (y.operation(r, size) != Run.NONE) {
            size++;
        }
        return size;
    }

    private int made(int r) {
        int number = 0;
        while (y.ancestor(r, number, r, number) != Run.NONE) {
            number++;
        }
        return number;
    }

    private void addAncestors(int a, int b) {
        for (int i : new int[] {0, made(a) / 2, made(a) - 1, made(a)}) {
            for (int j : new int[] {0, made(b) / 2, made(b) - 1, made(b)}) {
                add("ancestor", a, i, b, j);
            }
        }
    }

    /** Makes the calls of the script on each object first, and asks for all of the view behind them. */
    void check(Checks checks, String part, List<Call> script) {
        if (script.size() >= Run.MOST_CALLS) {
            throw new IllegalStateException(part + ": the script leaves no call for a query");
        }
        Run run = null;
        for (int k = 0; k < queries.size() && !checks.anyWrong(); k++) {
            if (run == null || run.callsLeft() == 0) {
                run = new Run(checks, part);
                for (Call call : script) {
                    run.ask(call);
                }
            }
            run.due(answers.get(k), queries.get(k));
        }
    }
}
