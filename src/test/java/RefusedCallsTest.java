import java.util.ArrayList;
import java.util.LinkedHashMap;
import java.util.List;
import java.util.Map;

/**
 * A call that is refused changes nothing. Several states are made; in each, every call that the
 * arguments below give and that must be refused is made; then all that the state shows must be as
 * if the call had not been made, and so must all that later calls answer and show.
 */
public final class RefusedCallsTest {
    private static final int[] SITES = {Integer.MIN_VALUE, -1, 0, 1, 2, 3, Integer.MAX_VALUE};
    private static final int[] ROW = {Integer.MIN_VALUE, -1, 0, 1, 2, 3, 4, 5, 6, 39, 40, 41, Integer.MAX_VALUE};
    private static final int[] CHARACTERS = {Integer.MIN_VALUE, 0, 31, 32, 126, 127, Integer.MAX_VALUE};
    private static final int[] MESSAGES = {Integer.MIN_VALUE, -1, 0, 1, 2, 3, 4, 5, 6, Integer.MAX_VALUE};
    private static final int[] NUMBERS = {Integer.MIN_VALUE, -1, 0, 2, 40, Integer.MAX_VALUE};
    private static final int[] FEW_SITES = {-1, 0, 2, 3};
    /** So many that a view still has room behind them. */
    private static final int MOST_AT_ONCE = 60;

    private final Checks checks = new Checks("RefusedCallsTest");

    public static void main(String[] args) {
        RefusedCallsTest test = new RefusedCallsTest();
        test.inState("a new object", List.of());
        test.inState("texts and messages", written());
        test.inState("six messages under way", sixMessages());
        test.inState("forty events", fortyEvents());
        test.inState("nothing to send", allPassed());
        test.checks.end();
    }

    private static Call call(String name, int... arguments) {
        return new Call(name, arguments);
    }

    /** Merges at each site, hidden characters, and messages: 0 is delivered, 1 discarded, 3 lacks a parent. */
    private static List<Call> written() {
        return new ArrayList<>(List.of(
                call("insert", 0, 0, 'a'), call("insert", 0, 1, 'b'), call("insert", 0, 2, 'c'),
                call("insert", 1, 0, 'd'), call("insert", 2, 0, 'e'), call("insert", 2, 0, 'f'),
                call("send", 0, 1), call("deliver", 0), call("delete", 1, 1), call("insert", 1, 1, 'g'),
                call("send", 1, 2), call("deliver", 1), call("discard", 1), call("delete", 0, 1),
                call("send", 2, 0), call("deliver", 1), call("insert", 0, 2, 'h'), call("delete", 2, 0),
                call("send", 0, 2), call("insert", 0, 0, 'i'), call("send", 0, 2), call("send", 2, 1),
                call("hear", 1, 0), call("discard", 1), call("delete", 0, 0), call("delete", 1, 3)));
    }

    private static List<Call> sixMessages() {
        List<Call> script = new ArrayList<>();
        for (int m = 0; m < 6; m++) {
            script.add(call("insert", m % 2, 0, 'a' + m));
            script.add(call("send", m % 2, 1 - m % 2));
        }
        script.add(call("insert", 2, 0, 'x'));
        script.add(call("insert", 0, 1, 'y'));
        script.add(call("deliver", 1));
        return script;
    }

    private static List<Call> fortyEvents() {
        List<Call> script = new ArrayList<>();
        for (int k = 0; k < 40; k++) {
            boolean insert = k % 5 != 4;
            script.add(insert ? call("insert", k % 2, 0, 40 + k) : call("delete", k % 2, 0));
            if (k % 13 == 12) {
                script.add(call("send", 0, 1));
                script.add(call("send", 1, 0));
                script.add(call("deliver", 0));
            }
        }
        script.add(call("discard", 0));
        return script;
    }

    private static List<Call> allPassed() {
        List<Call> script = new ArrayList<>();
        for (int r = 0; r < 3; r++) {
            script.add(call("insert", r, 0, 'p' + r));
        }
        for (int k = 0; k < 6; k++) {
            script.add(call("send", k % 3, (k + 1) % 3));
            script.add(call("deliver", 0));
            script.add(call("discard", 0));
        }
        return script;
    }

    /** Writes at each site, sends between each two, delivers all, and hears. */
    private static List<Call> laterCalls() {
        List<Call> later = new ArrayList<>();
        for (int r = 0; r < 3; r++) {
            later.add(call("insert", r, 0, 'u' + r));
            later.add(call("delete", r, 1));
        }
        for (int k = 0; k < 6; k++) {
            later.add(call("send", k % 3, k < 3 ? (k + 1) % 3 : (k + 2) % 3));
        }
        for (int m = 0; m < 6; m++) {
            later.add(call("deliver", m));
        }
        later.add(call("discard", 1));
        later.add(call("discard", 4));
        later.add(call("hear", 0, 1));
        later.add(call("send", 0, 1));
        later.add(call("hear", 2, 0));
        later.add(call("send", 2, 0));
        return later;
    }

    private static ReferenceText after(List<Call> script) {
        ReferenceText y = new ReferenceText();
        for (Call call : script) {
            call.ask(y);
        }
        return y;
    }

    private void inState(String state, List<Call> script) {
        List<Call> whole = new ArrayList<>(script);
        whole.addAll(laterCalls());
        View now = new View(after(script));
        View later = new View(after(whole));
        for (Map.Entry<String, List<Call>> kind : candidates().entrySet()) {
            List<Call> refused = refusedOf(script, kind.getValue());
            checks.due(state + ": the table has refused calls of " + kind.getKey(), refused.isEmpty(), false);
            int step = changes(kind.getKey()) ? 1 : MOST_AT_ONCE;
            for (int k = 0; k < refused.size() && !checks.anyWrong(); k += step) {
                List<Call> together = refused.subList(k, Math.min(refused.size(), k + step));
                dueUnchanged(state, script, together, now, later);
            }
        }
    }

    /** Those that could change something are tried one by one. */
    private static boolean changes(String name) {
        return List.of("insert", "delete", "send", "deliver", "discard", "hear").contains(name);
    }

    private static List<Call> refusedOf(List<Call> script, List<Call> calls) {
        List<Call> refused = new ArrayList<>();
        for (Call call : calls) {
            if (isRefused(call, call.ask(after(script)))) {
                refused.add(call);
            }
        }
        return refused;
    }

    private static boolean isRefused(Call call, long answer) {
        return switch (call.name()) {
            case "discard" -> answer == Run.NO;
            case "deliver" -> answer == Run.NONE || answer == Run.MISSING;
            default -> answer == Run.NONE;
        };
    }

    private void dueUnchanged(String state, List<Call> script, List<Call> refused, View now, View later) {
        String part = state + ", then refused " + refused.get(0) + (refused.size() > 1 ? " .." : "");
        dueRefused(part, script, refused);
        List<Call> calls = new ArrayList<>(script);
        calls.addAll(refused);
        now.check(checks, part, calls);
        dueLaterAnswers(part, script, calls);
        calls.addAll(laterCalls());
        later.check(checks, part + ", then later calls", calls);
    }

    private void dueRefused(String part, List<Call> script, List<Call> refused) {
        Run run = new Run(checks, part);
        for (Call call : script) {
            run.ask(call);
        }
        ReferenceText y = after(script);
        for (Call call : refused) {
            run.due(call.ask(y), call);
        }
    }

    private void dueLaterAnswers(String part, List<Call> script, List<Call> calls) {
        Run run = new Run(checks, part);
        for (Call call : calls) {
            run.ask(call);
        }
        ReferenceText y = after(script);
        for (Call call : laterCalls()) {
            run.due(call.ask(y), call);
        }
    }

    private static Map<String, List<Call>> candidates() {
        Map<String, List<Call>> calls = new LinkedHashMap<>();
        calls.put("insert", product("insert", SITES, ROW, CHARACTERS));
        calls.put("delete", product("delete", SITES, ROW));
        calls.put("send", product("send", SITES, SITES));
        calls.put("deliver", product("deliver", MESSAGES));
        calls.put("discard", product("discard", MESSAGES));
        calls.put("hear", product("hear", SITES, SITES));
        calls.put("believed", product("believed", SITES, SITES));
        for (String name : List.of("length", "events", "heads", "critical", "replayed", "moves")) {
            calls.put(name, product(name, SITES));
        }
        for (String name : List.of("at", "head", "operation")) {
            calls.put(name, product(name, SITES, ROW));
        }
        calls.put("octets", product("octets", MESSAGES));
        calls.put("octet", product("octet", MESSAGES, ROW));
        calls.put("ancestor", product("ancestor", FEW_SITES, NUMBERS, FEW_SITES, NUMBERS));
        return calls;
    }

    private static List<Call> product(String name, int[]... domains) {
        List<Call> calls = new ArrayList<>();
        addProduct(calls, name, domains, new int[domains.length], 0);
        return calls;
    }

    private static void addProduct(List<Call> calls, String name, int[][] domains, int[] chosen, int depth) {
        if (depth == domains.length) {
            calls.add(new Call(name, chosen.clone()));
            return;
        }
        for (int value : domains[depth]) {
            chosen[depth] = value;
            addProduct(calls, name, domains, chosen, depth + 1);
        }
    }
}
