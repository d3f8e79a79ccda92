/** An object answers as the document says up to its 512th call, whatever the calls before were. */
public final class CallLimitTest {
    private static final int NONE = Run.NONE;
    private static final int NO = Run.NO;
    private static final int YES = Run.YES;

    private final Checks checks = new Checks("CallLimitTest");

    public static void main(String[] args) {
        CallLimitTest test = new CallLimitTest();
        test.fortiethEventIsTheLastCall();
        test.refusedCallsFirst();
        test.sentAndDiscarded();
        test.deliveredAgainAndAgain();
        test.heardAgainAndAgain();
        test.mergeIsTheLastCall();
        test.checks.end();
    }

    private Run start(String part) {
        return new Run(checks, "512 calls: " + part);
    }

    private void dueUsedUp(Run run) {
        checks.due("calls made", run.calls(), Run.MOST_CALLS);
    }

    private void fortiethEventIsTheLastCall() {
        Run run = start("the 40th event is the last call");
        for (int k = 0; k < 472; k++) {
            run.due(0, k % 2 == 0 ? "length" : "events", k % 3);
        }
        for (int k = 0; k < 40; k++) {
            run.due(k, "insert", 1, k, 'a');
        }
        dueUsedUp(run);
    }

    private void refusedCallsFirst() {
        Run run = start("refused calls, then one that is not");
        for (int k = 0; k < 100; k++) {
            run.due(NONE, "insert", 0, 1, 'a');
            run.due(NONE, "delete", 0, 0);
            run.due(NONE, "send", 0, 1);
            run.due(NONE, "deliver", 0);
            run.due(NO, "discard", 0);
        }
        run.type(0, "abcde");
        run.due(0, "send", 0, 1);
        run.due(5, "deliver", 0);
        run.due(YES, "discard", 0);
        run.due(0, "replayed", 1);
        run.due(5, "length", 1);
        run.due('e', "at", 1, 4);
        dueUsedUp(run);
    }

    private void sentAndDiscarded() {
        Run run = start("127 messages");
        run.type(0, "a");
        for (int k = 0; k < 127; k++) {
            run.due(0, "send", 0, 1);
            run.due(9, "octets", 0);
            run.due(YES, "discard", 0);
            run.due(0, "hear", 0, 1);
        }
        run.due(0, "send", 0, 1);
        run.due(1, "deliver", 0);
        dueUsedUp(run);
    }

    private void deliveredAgainAndAgain() {
        Run run = start("a message delivered 500 times");
        run.type(0, "ab");
        run.due(0, "send", 0, 1);
        run.due(2, "deliver", 0);
        for (int k = 0; k < 499; k++) {
            run.due(0, "deliver", 0);
        }
        run.dueText(1, "ab");
        run.due(2, "believed", 1, 0);
        run.due(2, "events", 1);
        run.due(0, "moves", 1);
        run.due(1, "operation", 1, 1);
        run.due(YES, "discard", 0);
        dueUsedUp(run);
    }

    private void heardAgainAndAgain() {
        Run run = start("heard 506 times");
        run.type(2, "a");
        run.pass(2, 1);
        for (int k = 0; k < 253; k++) {
            run.due(1, "hear", 1, 2);
            run.due(0, "hear", 0, 2);
        }
        run.due(1, "believed", 1, 2);
        dueUsedUp(run);
    }

    private void mergeIsTheLastCall() {
        Run run = start("a merge is the last call");
        run.type(0, "abcdefghijklmnopqrst");
        run.type(1, "abcdefghijklmnopqrst");
        run.due(0, "send", 1, 0);
        while (run.callsLeft() > 1) {
            run.due(20, "critical", 0);
        }
        run.due(20, "deliver", 0);
        dueUsedUp(run);
    }
}
