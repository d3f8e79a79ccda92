import java.util.ArrayList;
import java.util.List;
import java.util.Random;

/** Runs of calls, drawn with fixed seeds, on the program and on the reference: the answers must be the same. */
public final class ReferenceTest {
    private static final int RUNS = 3000;
    private static final int MOST_CALLS_DRAWN = 300;
    private static final int[] STRANGE = {-1, 3, 6, 40, 64, 127, 1000, -1000, Integer.MAX_VALUE, Integer.MIN_VALUE};

    private final Checks checks;
    private final Random random;
    private final Run run;
    private final ReferenceText y = new ReferenceText();
    private final String part;
    private final List<Call> script = new ArrayList<>();

    private ReferenceTest(Checks checks, int seed) {
        this.checks = checks;
        this.random = new Random(seed);
        this.part = "run " + seed;
        this.run = new Run(checks, part);
    }

    public static void main(String[] args) {
        Checks checks = new Checks("ReferenceTest");
        for (int seed = 0; seed < RUNS && !checks.anyWrong(); seed++) {
            new ReferenceTest(checks, seed).go();
        }
        checks.end();
    }

    /** Some runs have few deletes, some send seldom, some lose most messages: each shape of graph comes up. */
    private void go() {
        int deletes = random.nextInt(6);
        int sends = 1 + random.nextInt(10);
        int hears = random.nextInt(4);
        int discards = 1 + random.nextInt(5);
        int strange = random.nextInt(3);
        int queries = random.nextInt(20);
        int[] weights = {10, deletes, sends, sends + 2, discards, hears, strange, queries};
        int calls = 20 + random.nextInt(MOST_CALLS_DRAWN - 20);
        for (int k = 0; k < calls && !checks.anyWrong(); k++) {
            compare(drawn(draw(weights)));
        }
        for (int r = 0; r < 3; r++) {
            checks.due(part + ", the reference's text is its list at " + r, y.textIsTheList(r), true);
        }
        new View(y).check(checks, part + ", at its end", script);
    }

    private void compare(Call call) {
        script.add(call);
        run.due(call.ask(y), call);
    }

    private int draw(int[] weights) {
        int total = 0;
        for (int w : weights) {
            total += w;
        }
        int rest = random.nextInt(total);
        int kind = 0;
        while (rest >= weights[kind]) {
            rest -= weights[kind];
            kind++;
        }
        return kind;
    }

    private Call drawn(int kind) {
        int r = random.nextInt(3);
        int to = random.nextInt(20) == 0 ? random.nextInt(3) : (r + 1 + random.nextInt(2)) % 3;
        int m = random.nextInt(6);
        int c = random.nextInt(4) == 0 ? 32 + random.nextInt(95) : 97 + random.nextInt(6);
        return switch (kind) {
            case 0 -> new Call("insert", r, random.nextInt(y.length(r) + 1), c);
            case 1 -> new Call("delete", r, random.nextInt(y.length(r) + 1));
            case 2 -> new Call("send", r, to);
            case 3 -> new Call("deliver", m);
            case 4 -> new Call("discard", m);
            case 5 -> new Call("hear", r, to);
            case 6 -> strangeCall();
            default -> query();
        };
    }

    private Call query() {
        int r = random.nextInt(3);
        int m = random.nextInt(6);
        return switch (random.nextInt(13)) {
            case 0 -> new Call("length", r);
            case 1 -> new Call("at", r, random.nextInt(y.length(r) + 1));
            case 2 -> new Call("believed", r, (r + 1 + random.nextInt(2)) % 3);
            case 3 -> new Call("octets", m);
            case 4 -> new Call("octet", m, random.nextInt(Math.max(0, y.octets(m)) + 1));
            case 5 -> new Call("events", r);
            case 6 -> new Call("heads", r);
            case 7 -> new Call("head", r, random.nextInt(y.heads(r) + 1));
            case 8 -> new Call("critical", r);
            case 9 -> new Call("replayed", r);
            case 10 -> new Call("moves", r);
            case 11 -> new Call("operation", r, random.nextInt(10));
            default -> new Call("ancestor", r, random.nextInt(14), random.nextInt(3), random.nextInt(14));
        };
    }

    private int strange() {
        return random.nextInt(3) == 0 ? random.nextInt(3) : STRANGE[random.nextInt(STRANGE.length)];
    }

    private Call strangeCall() {
        int a = strange();
        int b = strange();
        int c = random.nextBoolean() ? strange() : 97;
        return switch (random.nextInt(12)) {
            case 0 -> new Call("insert", a, b, c);
            case 1 -> new Call("delete", a, b);
            case 2 -> new Call("at", a, b);
            case 3 -> new Call("send", a, b);
            case 4 -> new Call("hear", a, b);
            case 5 -> new Call("believed", a, b);
            case 6 -> new Call("octet", a, b);
            case 7 -> new Call("head", a, b);
            case 8 -> new Call("ancestor", a, b, c, strange());
            case 9 -> new Call("operation", a, b);
            case 10 -> new Call("deliver", a);
            default -> new Call("discard", a);
        };
    }
}
