/** The boundary cases of promises 18 to 20 and of the term A MERGE, worked out by hand, a sentence each. */
public final class MergeEdgesTest {
    private static final int NONE = Run.NONE;
    private static final int MISSING = Run.MISSING;
    private static final int NOTHING = Run.NOTHING;
    private static final int YES = Run.YES;
    private static final String FORTY = "abcdefghijklmnopqrstuvwxyzabcdefghijklmn";

    private final Checks checks = new Checks("MergeEdgesTest");

    public static void main(String[] args) {
        MergeEdgesTest test = new MergeEdgesTest();
        test.noMerge();
        test.bases();
        test.latestMerge();
        test.operations();
        test.checks.end();
    }

    private Run start(String part) {
        return new Run(checks, part);
    }

    private void noMerge() {
        mergeOfNoSite();
        noMergeInANewObject();
        ownEventsAreNoMerge();
        refusedDeliveryIsNoMerge();
        deliveryWithoutNewIsNoMerge();
        mergeAtOneSiteOnly();
    }

    private void mergeOfNoSite() {
        Run run = start("18, 19, 20: NONE if r is not 0 .. 2");
        run.type(0, "a");
        for (int r = 1; r < 3; r++) {
            run.type(r, "b");
            run.pass(0, r);
        }
        run.pass(1, 0);
        for (String name : new String[] {"replayed", "moves"}) {
            run.due(NONE, name, -1);
            run.due(NONE, name, 3);
            for (int r : Run.FAR) {
                run.due(NONE, name, r);
            }
        }
        run.due(NONE, "operation", -1, 0);
        run.due(NONE, "operation", 3, 0);
        for (int r : Run.FAR) {
            run.due(NONE, "operation", r, 0);
        }
        run.dueMerge(0, 1, 1, 1);
        run.dueMerge(1, 1, 1, 0);
        run.dueMerge(2, 1, 1, 0);
    }

    private void noMergeInANewObject() {
        Run run = start("18, 19, 20: no merge in a new object");
        for (int r = 0; r < 3; r++) {
            run.dueMerge(r, 0, 0);
            run.due(NONE, "operation", r, -1);
            run.due(NONE, "operation", r, 1);
        }
    }

    private void ownEventsAreNoMerge() {
        Run run = start("18, 19, 20: events made at a site are no merge");
        run.type(0, "ab");
        run.ask("delete", 0, 0);
        run.due(0, "send", 0, 1);
        run.due(0, "hear", 0, 1);
        run.dueMerge(0, 0, 0);
        run.dueMerge(1, 0, 0);
    }

    private void refusedDeliveryIsNoMerge() {
        Run run = start("18, 19, 20: a delivery that is refused is no merge");
        run.type(0, "a");
        run.due(0, "send", 0, 1);
        run.type(0, "b");
        run.due(1, "send", 0, 1);
        run.type(1, "z");
        run.due(MISSING, "deliver", 1);
        run.dueMerge(1, 0, 0);
        run.due(1, "deliver", 0);
        run.dueMerge(1, 1, 1, 0);
        run.type(0, "c");
        run.due(YES, "discard", 0);
        run.due(0, "send", 0, 1);
        run.due(MISSING, "deliver", 0);
        run.dueMerge(1, 1, 1, 0);
    }

    private void deliveryWithoutNewIsNoMerge() {
        Run run = start("18, 19, 20: a delivery without NEW events is no merge");
        run.type(0, "ab");
        run.due(0, "send", 0, 1);
        run.due(2, "deliver", 0);
        run.type(1, "cd");
        run.type(0, "e");
        run.due(1, "send", 0, 1);
        run.due(1, "deliver", 1);
        run.dueMerge(1, 2, 2, 2);
        run.due(0, "deliver", 0);
        run.dueMerge(1, 2, 2, 2);
        run.due(0, "deliver", 1);
        run.dueMerge(1, 2, 2, 2);
    }

    private void mergeAtOneSiteOnly() {
        Run run = start("18, 19, 20: the merge at site r");
        run.type(0, "ab");
        run.type(1, "c");
        run.pass(0, 1);
        run.dueMerge(0, 0, 0);
        run.dueMerge(1, 1, 1, 0, 1);
        run.dueMerge(2, 0, 0);
        run.pass(1, 2);
        run.dueMerge(2, 0, 2, 0, 1, 2);
        run.dueMerge(1, 1, 1, 0, 1);
    }

    private void bases() {
        mergeIntoAnEmptyGraph();
        baseIsTheHead();
        noBase();
        baseBeforeAFork();
        newEventIsNoBase();
        manyReplayed();
        manyNew();
    }

    private void mergeIntoAnEmptyGraph() {
        Run run = start("A MERGE: into an empty graph");
        run.type(0, "abc");
        run.pass(0, 1);
        run.dueMerge(1, 0, 0, 0, 1, 2);
    }

    private void baseIsTheHead() {
        Run run = start("A MERGE: the base is the last event of the graph");
        run.type(0, "abc");
        run.pass(0, 1);
        run.type(0, "de");
        run.pass(0, 1);
        run.dueMerge(1, 0, 0, 3, 4);
        run.type(1, "f");
        run.pass(1, 0);
        run.dueMerge(0, 0, 0, 5);
    }

    private void noBase() {
        Run run = start("A MERGE: all are replayed if there is no base");
        run.type(0, "abc");
        run.type(1, "de");
        run.pass(1, 0);
        run.dueMerge(0, 3, 3, 3, 4);
        run.pass(0, 1);
        run.dueMerge(1, 2, 2, 0, 1, 2);
    }

    private void baseBeforeAFork() {
        Run run = start("A MERGE: the base and its ancestors are not replayed");
        run.type(0, "ab");
        run.pass(0, 1);
        run.type(0, "cd");
        run.type(1, "e");
        run.pass(1, 0);
        run.dueMerge(0, 2, 2, 4);
        run.dueText(0, "abcde");
    }

    /** The last event joins all others, but it was not in the graph before. */
    private void newEventIsNoBase() {
        Run run = start("A MERGE: the base was in the graph already");
        run.type(0, "ab");
        run.pass(0, 1);
        run.type(0, "c");
        run.type(1, "d");
        run.pass(0, 1);
        run.type(1, "e");
        run.pass(1, 0);
        run.due(5, "critical", 0);
        run.dueMerge(0, 1, 2, 3, 4);
        run.dueText(0, "abcde");
    }

    private void manyReplayed() {
        Run run = start("18, 19: 39 events are replayed");
        run.type(0, FORTY.substring(1));
        run.type(1, "z");
        run.due(0, "send", 1, 0);
        run.due(1, "deliver", 0);
        run.dueMerge(0, 39, 39, 39);
        run.due('z', "at", 0, 39);
    }

    private void manyNew() {
        Run run = start("18, 19: 39 events are new");
        run.type(0, FORTY.substring(1));
        run.type(1, "z");
        run.due(0, "send", 0, 1);
        run.due(39, "deliver", 0);
        run.due(1, "replayed", 1);
        run.due(1, "moves", 1);
        for (int k = 0; k < 39; k++) {
            run.due(k, "operation", 1, k);
        }
        run.due(NONE, "operation", 1, 39);
        run.due('z', "at", 1, 39);
    }

    private void latestMerge() {
        Run run = start("18, 19, 20: the latest merge, and no other");
        run.type(0, "abc");
        run.type(1, "de");
        run.pass(0, 1);
        run.dueMerge(1, 2, 2, 0, 1, 2);
        run.type(1, "f");
        run.dueMerge(1, 2, 2, 0, 1, 2);
        run.pass(1, 0);
        run.type(0, "g");
        run.pass(0, 1);
        run.dueMerge(1, 0, 0, 6);
        run.due(NONE, "operation", 1, 2);
        run.dueMerge(0, 3, 3 + 3, 3, 4, 5);
        run.ask("delete", 1, 0);
        run.dueMerge(1, 0, 0, 6);
    }

    private void operations() {
        operationTooSmallOrTooLarge();
        operationsAtIndexZero();
        takenOutBefore();
        takenOutByAnEarlierNewOne();
        putInAndTakenOut();
        fortyOperations();
    }

    private void operationTooSmallOrTooLarge() {
        Run run = start("20: NONE if it applied no such event");
        run.type(0, "abc");
        run.pass(0, 1);
        run.due(NONE, "operation", 1, -1);
        run.due(0, "operation", 1, 0);
        run.due(2, "operation", 1, 2);
        run.due(NONE, "operation", 1, 3);
        run.due(NONE, "operation", 1, 40);
        for (int k : Run.FAR) {
            run.due(NONE, "operation", 1, k);
            run.due(NONE, "operation", 0, k);
        }
    }

    private void operationsAtIndexZero() {
        Run run = start("20: 0 and -1 - 0");
        run.type(0, "ab");
        run.pass(0, 1);
        run.ask("insert", 0, 0, 'c');
        run.ask("delete", 0, 0);
        run.ask("delete", 0, 0);
        run.ask("delete", 0, 0);
        run.pass(0, 1);
        run.dueMerge(1, 0, 0, 0, -1, -1, -1);
        run.dueText(1, "");
    }

    private void takenOutBefore() {
        Run run = start("20: NOTHING if the character is hidden there");
        run.type(0, "ab");
        run.pass(0, 1);
        run.ask("delete", 0, 0);
        run.ask("delete", 1, 0);
        run.ask("delete", 1, 0);
        run.pass(1, 0);
        run.dueMerge(0, 1, 1, NOTHING, -1);
        run.dueText(0, "");
        run.pass(0, 1);
        run.dueMerge(1, 2, 2, NOTHING);
    }

    private void takenOutByAnEarlierNewOne() {
        Run run = start("20: NOTHING if an event applied before took it out");
        run.type(0, "ab");
        run.pass(0, 1);
        run.pass(0, 2);
        run.ask("delete", 1, 0);
        run.ask("delete", 2, 0);
        run.pass(1, 2);
        run.dueMerge(2, 1, 1, NOTHING);
        run.pass(2, 0);
        run.dueMerge(0, 0, 1, -1, NOTHING);
        run.dueText(0, "b");
    }

    private void putInAndTakenOut() {
        Run run = start("20: a character that is put in and taken out in one merge");
        run.type(0, "ab");
        run.pass(0, 1);
        run.ask("insert", 1, 1, 'x');
        run.ask("delete", 1, 1);
        run.pass(1, 0);
        run.dueMerge(0, 0, 0, 1, -2);
        run.dueText(0, "ab");
    }

    private void fortyOperations() {
        Run run = start("20: 40 events were applied");
        run.type(2, FORTY.substring(0, 39));
        run.ask("delete", 2, 38);
        run.pass(2, 1);
        run.due(0, "replayed", 1);
        run.due(0, "moves", 1);
        for (int k = 0; k < 39; k++) {
            run.due(k, "operation", 1, k);
        }
        run.due(-1 - 38, "operation", 1, 39);
        run.due(NONE, "operation", 1, 40);
        run.due(NONE, "operation", 1, 41);
    }
}
