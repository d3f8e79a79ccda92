import java.util.Random;

/** Runs of calls, drawn with fixed seeds, on the program and on the reference: the answers must be the same. */
public final class ReferenceTest {
    private static final int RUNS = 1500;
    private static final int[] STRANGE = {-1, 3, 6, 40, 127, 1000, -1000, Integer.MAX_VALUE, Integer.MIN_VALUE};

    private final Checks checks;
    private final Random random;
    private final EventGraphText x = new EventGraphText();
    private final ReferenceText y = new ReferenceText();
    private final String run;

    private ReferenceTest(Checks checks, int seed) {
        this.checks = checks;
        this.random = new Random(seed);
        this.run = "run " + seed + ": ";
    }

    public static void main(String[] args) {
        Checks checks = new Checks("ReferenceTest");
        for (int seed = 0; seed < RUNS && !checks.anyWrong(); seed++) {
            new ReferenceTest(checks, seed).go();
        }
        checks.end();
    }

    /** Some runs have few deletes, some send seldom, some lose most messages: each shape of graph comes up. */
    private void go() {
        int deletes = random.nextInt(6);
        int sends = 1 + random.nextInt(10);
        int hears = random.nextInt(4);
        int discards = 1 + random.nextInt(5);
        int[] weights = {10, deletes, sends, sends + 2, discards, hears};
        int calls = 20 + random.nextInt(130);
        for (int k = 0; k < calls && !checks.anyWrong(); k++) {
            change(draw(weights));
            if (random.nextInt(8) == 0 || k == calls - 1) {
                compareSites();
                compareMessages();
                comparePairs();
            }
            if (random.nextInt(12) == 0) {
                compareStrange();
            }
        }
    }

    private int draw(int[] weights) {
        int total = 0;
        for (int w : weights) {
            total += w;
        }
        int rest = random.nextInt(total);
        int kind = 0;
        while (rest >= weights[kind]) {
            rest -= weights[kind];
            kind++;
        }
        return kind;
    }

    private void due(String call, long got, long want) {
        checks.due(run + call, got, want);
    }

    private void change(int kind) {
        int r = random.nextInt(3);
        int to = random.nextInt(20) == 0 ? random.nextInt(3) : (r + 1 + random.nextInt(2)) % 3;
        int m = random.nextInt(6);
        if (kind == 0) {
            int index = random.nextInt(y.length(r) + 1);
            int c = random.nextInt(4) == 0 ? 32 + random.nextInt(95) : 97 + random.nextInt(6);
            due("insert(" + r + ", " + index + ", " + c + ")", x.insert(r, index, c), y.insert(r, index, c));
        } else if (kind == 1) {
            int index = random.nextInt(y.length(r) + 1);
            due("delete(" + r + ", " + index + ")", x.delete(r, index), y.delete(r, index));
        } else if (kind == 2) {
            due("send(" + r + ", " + to + ")", x.send(r, to), y.send(r, to));
        } else if (kind == 3) {
            due("deliver(" + m + ")", x.deliver(m), y.deliver(m));
        } else if (kind == 4) {
            due("discard(" + m + ")", x.discard(m) ? 1 : 0, y.discard(m) ? 1 : 0);
        } else {
            due("hear(" + r + ", " + to + ")", x.hear(r, to), y.hear(r, to));
        }
    }

    private void compareSites() {
        for (int r = -1; r <= 3; r++) {
            due("length(" + r + ")", x.length(r), y.length(r));
            due("events(" + r + ")", x.events(r), y.events(r));
            due("heads(" + r + ")", x.heads(r), y.heads(r));
            due("critical(" + r + ")", x.critical(r), y.critical(r));
            due("replayed(" + r + ")", x.replayed(r), y.replayed(r));
            due("moves(" + r + ")", x.moves(r), y.moves(r));
            for (int k = -1; k <= 41; k++) {
                due("at(" + r + ", " + k + ")", x.at(r, k), y.at(r, k));
                due("operation(" + r + ", " + k + ")", x.operation(r, k), y.operation(r, k));
            }
            for (int k = -1; k <= 4; k++) {
                due("head(" + r + ", " + k + ")", x.head(r, k), y.head(r, k));
            }
        }
        for (int r = 0; r < 3; r++) {
            checks.due(run + "the reference's text is its list at " + r, y.textIsTheList(r), true);
        }
    }

    private void compareMessages() {
        for (int m = -1; m <= 6; m++) {
            due("octets(" + m + ")", x.octets(m), y.octets(m));
            int size = y.octets(m);
            for (int k = -1; k <= size + 1; k++) {
                due("octet(" + m + ", " + k + ")", x.octet(m, k), y.octet(m, k));
            }
        }
    }

    private void comparePairs() {
        for (int a = -1; a <= 3; a++) {
            for (int b = -1; b <= 3; b++) {
                due("believed(" + a + ", " + b + ")", x.believed(a, b), y.believed(a, b));
            }
        }
        for (int k = 0; k < 40; k++) {
            int a = random.nextInt(3);
            int i = random.nextInt(18) - 1;
            int b = random.nextInt(3);
            int j = random.nextInt(18) - 1;
            due("ancestor(" + a + ", " + i + ", " + b + ", " + j + ")", x.ancestor(a, i, b, j), y.ancestor(a, i, b, j));
        }
    }

    private int strange() {
        return random.nextInt(3) == 0 ? random.nextInt(3) : STRANGE[random.nextInt(STRANGE.length)];
    }

    private void compareStrange() {
        int a = strange();
        int b = strange();
        int c = random.nextBoolean() ? strange() : 97;
        int d = strange();
        String arguments = "(" + a + ", " + b + ", " + c + ", " + d + ")";
        due("insert" + arguments, x.insert(a, b, c), y.insert(a, b, c));
        due("delete" + arguments, x.delete(a, b), y.delete(a, b));
        due("at" + arguments, x.at(a, b), y.at(a, b));
        due("send" + arguments, x.send(a, b), y.send(a, b));
        due("hear" + arguments, x.hear(a, b), y.hear(a, b));
        due("believed" + arguments, x.believed(a, b), y.believed(a, b));
        due("octet" + arguments, x.octet(a, b), y.octet(a, b));
        due("head" + arguments, x.head(a, b), y.head(a, b));
        due("ancestor" + arguments, x.ancestor(a, b, c, d), y.ancestor(a, b, c, d));
        due("operation" + arguments, x.operation(a, b), y.operation(a, b));
        due("deliver" + arguments, x.deliver(a), y.deliver(a));
        due("discard" + arguments, x.discard(d) ? 1 : 0, y.discard(d) ? 1 : 0);
    }
}
