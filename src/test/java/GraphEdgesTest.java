/** The boundary cases of promises 13 to 17 and of the terms EVENTS and A MERGE, worked out by hand, a sentence each. */
public final class GraphEdgesTest {
    private static final int NONE = Run.NONE;
    private static final String FORTY = "abcdefghijklmnopqrstuvwxyzabcdefghijklmn";

    private final Checks checks = new Checks("GraphEdgesTest");

    public static void main(String[] args) {
        GraphEdgesTest test = new GraphEdgesTest();
        test.events();
        test.heads();
        test.ancestors();
        test.critical();
        test.checks.end();
    }

    private Run start(String part) {
        return new Run(checks, part);
    }

    /** Two events of site 0, three of site 1, one of site 2, none of them known elsewhere. */
    private Run startWithTexts(String part) {
        Run run = start(part);
        run.type(0, "ab");
        run.type(1, "cde");
        run.type(2, "f");
        return run;
    }

    private void dueNoneForNoSite(Run run, String name) {
        run.due(NONE, name, -1);
        run.due(NONE, name, 3);
        for (int r : Run.FAR) {
            run.due(NONE, name, r);
        }
    }

    private void dueNoneInRowForNoSite(Run run, String name) {
        run.due(NONE, name, -1, 0);
        run.due(NONE, name, 3, 0);
        for (int r : Run.FAR) {
            run.due(NONE, name, r, 0);
        }
    }

    private void events() {
        eventsOfNoSite();
        eventsFromNoneToForty();
        eventsMadeOrMerged();
    }

    private void eventsOfNoSite() {
        Run run = startWithTexts("13: NONE if r is not 0 .. 2");
        dueNoneForNoSite(run, "events");
        run.due(2, "events", 0);
        run.due(3, "events", 1);
        run.due(1, "events", 2);
    }

    private void eventsFromNoneToForty() {
        Run run = start("13: from 0 to 40");
        for (int k = 0; k < 40; k++) {
            run.due(k, "events", 2);
            run.due(k, k % 2 == 0 ? "insert" : "delete", k % 2 == 0 ? new int[] {2, 0, 'a'} : new int[] {2, 0});
        }
        run.due(40, "events", 2);
        run.due(NONE, "insert", 2, 0, 'a');
        run.due(40, "events", 2);
        run.due(0, "events", 0);
        run.pass(2, 0);
        run.due(40, "events", 0);
        run.due(0, "length", 0);
    }

    private void eventsMadeOrMerged() {
        Run run = startWithTexts("13: the events that were made there or merged there");
        run.due(0, "send", 1, 0);
        run.due(2, "events", 0);
        run.due(3, "deliver", 0);
        run.due(5, "events", 0);
        run.due(0, "deliver", 0);
        run.due(5, "events", 0);
        run.due(3, "events", 1);
    }

    private void heads() {
        headsOfNoSite();
        headsOfAnEmptyGraph();
        oneHead();
        threeHeads();
        headTooSmallOrTooLarge();
        headsByTheSiteFirst();
        greatestHead();
    }

    private void headsOfNoSite() {
        Run run = startWithTexts("14, 15: NONE if r is not 0 .. 2");
        dueNoneForNoSite(run, "heads");
        dueNoneInRowForNoSite(run, "head");
        for (int r = 0; r < 3; r++) {
            run.due(1, "heads", r);
        }
        run.due(3, "head", 0, 0);
        run.due(7, "head", 1, 0);
        run.due(2, "head", 2, 0);
    }

    private void headsOfAnEmptyGraph() {
        Run run = start("14, 15: no head in an empty graph");
        run.type(0, "a");
        run.due(0, "heads", 1);
        run.due(NONE, "head", 1, 0);
        run.due(NONE, "head", 1, -1);
        run.due(0, "heads", 2);
    }

    private void oneHead() {
        Run run = start("14, 15: one head");
        run.type(1, "abc");
        run.due(1, "heads", 1);
        run.due(7, "head", 1, 0);
        run.due(NONE, "head", 1, 1);
        run.pass(1, 0);
        run.due(1, "heads", 0);
        run.due(7, "head", 0, 0);
        run.ask("delete", 0, 0);
        run.due(1, "heads", 0);
        run.due(0, "head", 0, 0);
        run.due(NONE, "head", 0, 1);
    }

    private void threeHeads() {
        Run run = startWithTexts("14, 15: three heads, then one");
        run.pass(2, 0);
        run.due(2, "heads", 0);
        run.due(3, "head", 0, 0);
        run.due(2, "head", 0, 1);
        run.due(NONE, "head", 0, 2);
        run.pass(1, 0);
        run.due(3, "heads", 0);
        run.due(3, "head", 0, 0);
        run.due(7, "head", 0, 1);
        run.due(2, "head", 0, 2);
        run.due(NONE, "head", 0, 3);
        run.type(0, "z");
        run.due(1, "heads", 0);
        run.due(6, "head", 0, 0);
        run.due(NONE, "head", 0, 1);
    }

    private void headTooSmallOrTooLarge() {
        Run run = startWithTexts("15: NONE if k is not 0 .. heads(r) - 1");
        run.pass(2, 1);
        run.due(7, "head", 1, 0);
        run.due(2, "head", 1, 1);
        run.due(NONE, "head", 1, -1);
        run.due(NONE, "head", 1, 2);
        run.due(NONE, "head", 1, 3);
        for (int k : Run.FAR) {
            run.due(NONE, "head", 1, k);
        }
    }

    /** Head 0 has the greater number, and the greater answer. */
    private void headsByTheSiteFirst() {
        Run run = start("15: by the site, then by the number");
        run.type(1, "i");
        run.type(2, "jk");
        run.type(0, "abcdefgh");
        run.pass(0, 2);
        run.pass(1, 2);
        run.due(3 * 7, "head", 2, 0);
        run.due(1, "head", 2, 1);
        run.due(2 + 3, "head", 2, 2);
    }

    private void greatestHead() {
        Run run = start("15: the 40th event of site 2");
        run.type(2, FORTY);
        run.due(1, "heads", 2);
        run.due(2 + 3 * 39, "head", 2, 0);
        run.due(NONE, "head", 2, 1);
    }

    private void ancestors() {
        ancestorOfNoSite();
        ancestorOfNoEvent();
        ancestorFarOutside();
        ancestorOfItself();
        ancestorAcrossSites();
        ancestorAmongForty();
        ancestorBesideTheRowOfAnotherSite();
    }

    private void ancestorOfNoSite() {
        Run run = startWithTexts("16: NONE if there is no such site");
        for (int r : new int[] {-1, 3, Integer.MIN_VALUE, Integer.MAX_VALUE}) {
            run.due(NONE, "ancestor", r, 0, 0, 1);
            run.due(NONE, "ancestor", 0, 0, r, 1);
            run.due(NONE, "ancestor", r, 0, r, 0);
        }
        for (int r : Run.FAR) {
            run.due(NONE, "ancestor", r, 0, 1, 1);
            run.due(NONE, "ancestor", 1, 0, r, 0);
        }
    }

    private void ancestorOfNoEvent() {
        Run run = startWithTexts("16: NONE if one of the two events has not been made");
        int[] made = {2, 3, 1};
        for (int r = 0; r < 3; r++) {
            int last = made[r] - 1;
            run.due(0, "ancestor", r, last, r, 0);
            run.due(NONE, "ancestor", r, last + 1, r, 0);
            run.due(NONE, "ancestor", r, -1, r, 0);
            run.due(last == 0 ? 0 : 1, "ancestor", r, 0, r, last);
            run.due(NONE, "ancestor", r, 0, r, last + 1);
            run.due(NONE, "ancestor", r, 0, r, -1);
            run.due(NONE, "ancestor", r, last + 1, r, last + 1);
            run.due(NONE, "ancestor", r, -1, r, -1);
        }
        run.due(NONE, "ancestor", 0, 2, 1, 2);
        run.due(NONE, "ancestor", 1, 2, 0, 2);
        run.due(2, "insert", 0, 0, 'g');
        run.due(0, "ancestor", 0, 2, 1, 2);
        run.due(0, "ancestor", 1, 2, 0, 2);
        run.due(1, "ancestor", 0, 1, 0, 2);
    }

    private void ancestorFarOutside() {
        Run run = startWithTexts("16: NONE for numbers far outside");
        for (int far : Run.FAR) {
            run.due(NONE, "ancestor", 0, far, 0, 1);
            run.due(NONE, "ancestor", 0, 0, 0, far);
            run.due(NONE, "ancestor", 1, far, 2, 0);
            run.due(NONE, "ancestor", 2, 0, 1, far);
            run.due(NONE, "ancestor", far, far, far, far);
        }
    }

    private void ancestorOfItself() {
        Run run = startWithTexts("16: 0 also if it is the same event");
        run.due(0, "ancestor", 0, 0, 0, 0);
        run.due(0, "ancestor", 0, 1, 0, 1);
        run.due(0, "ancestor", 1, 2, 1, 2);
        run.due(0, "ancestor", 2, 0, 2, 0);
    }

    private void ancestorAcrossSites() {
        Run run = startWithTexts("16: the parents and the ancestors of these");
        run.due(0, "ancestor", 1, 2, 0, 1);
        run.pass(1, 0);
        run.due(0, "ancestor", 1, 2, 0, 1);
        run.type(0, "g");
        run.due(1, "ancestor", 1, 2, 0, 2);
        run.due(1, "ancestor", 1, 0, 0, 2);
        run.due(1, "ancestor", 0, 0, 0, 2);
        run.due(0, "ancestor", 0, 2, 1, 2);
        run.due(0, "ancestor", 2, 0, 0, 2);
        run.type(1, "h");
        run.due(0, "ancestor", 1, 3, 0, 2);
        run.due(0, "ancestor", 0, 1, 1, 3);
        run.due(1, "ancestor", 1, 2, 1, 3);
    }

    private void ancestorAmongForty() {
        Run run = start("16: the first and the last of 40 events");
        run.type(1, FORTY);
        run.due(1, "ancestor", 1, 0, 1, 39);
        run.due(1, "ancestor", 1, 38, 1, 39);
        run.due(0, "ancestor", 1, 39, 1, 0);
        run.due(0, "ancestor", 1, 39, 1, 39);
        run.due(NONE, "ancestor", 1, 0, 1, 40);
        run.due(NONE, "ancestor", 1, 40, 1, 39);
        run.due(NONE, "ancestor", 0, 0, 1, 39);
        run.due(NONE, "ancestor", 1, 0, 2, 0);
    }

    /** A number too large or too small must not fall among the events of the site beside it. */
    private void ancestorBesideTheRowOfAnotherSite() {
        Run run = start("16: numbers just outside, with events of all sites");
        for (int r = 0; r < 3; r++) {
            run.type(r, "abcde");
        }
        for (int number = 5; number <= 45; number++) {
            run.due(NONE, "ancestor", 0, number, 1, 4);
            run.due(NONE, "ancestor", 2, 4, 1, number);
        }
        for (int number = -45; number <= -1; number++) {
            run.due(NONE, "ancestor", 2, number, 1, 4);
            run.due(NONE, "ancestor", 0, 4, 1, number);
        }
    }

    private void critical() {
        criticalOfNoSite();
        criticalOfAnEmptyGraph();
        criticalOfAChain();
        criticalOfAFork();
        noCriticalEvent();
        criticalBehindAJoin();
        criticalAtOneSiteOnly();
    }

    private void criticalOfNoSite() {
        Run run = startWithTexts("17: NONE if r is not 0 .. 2");
        dueNoneForNoSite(run, "critical");
        run.due(2, "critical", 0);
        run.due(3, "critical", 1);
        run.due(1, "critical", 2);
    }

    private void criticalOfAnEmptyGraph() {
        Run run = start("17: 0 in an empty graph");
        run.due(0, "critical", 0);
        run.type(1, "a");
        run.due(0, "critical", 0);
        run.due(1, "critical", 1);
        run.due(0, "critical", 2);
    }

    private void criticalOfAChain() {
        Run run = start("17: the last of a chain, up to 40");
        for (int k = 0; k < 40; k++) {
            run.due(k, "critical", 0);
            run.ask("insert", 0, 0, 'a');
        }
        run.due(40, "critical", 0);
        run.pass(0, 1);
        run.due(40, "critical", 1);
    }

    private void criticalOfAFork() {
        Run run = start("17: the last event before a fork");
        run.type(0, "a");
        run.pass(0, 1);
        run.pass(0, 2);
        run.type(0, "bc");
        run.type(1, "d");
        run.pass(1, 0);
        run.due(1, "critical", 0);
        run.type(2, "e");
        run.pass(2, 0);
        run.due(1, "critical", 0);
        run.due(2, "critical", 1);
    }

    private void noCriticalEvent() {
        Run run = startWithTexts("17: 0 if there is no such event");
        run.pass(0, 2);
        run.due(0, "critical", 2);
        run.pass(1, 2);
        run.due(0, "critical", 2);
        run.due(2, "critical", 0);
    }

    private void criticalBehindAJoin() {
        Run run = startWithTexts("17: the event that joins all others");
        run.pass(0, 2);
        run.pass(1, 2);
        run.due(0, "critical", 2);
        run.type(2, "g");
        run.due(7, "critical", 2);
        run.type(2, "h");
        run.due(8, "critical", 2);
        run.pass(2, 0);
        run.due(8, "critical", 0);
        run.type(1, "i");
        run.pass(1, 0);
        run.due(0, "critical", 0);
    }

    private void criticalAtOneSiteOnly() {
        Run run = start("17: of the graph of site r");
        run.type(0, "ab");
        run.pass(0, 1);
        run.type(0, "c");
        run.type(1, "d");
        run.due(3, "critical", 0);
        run.due(3, "critical", 1);
        run.pass(0, 1);
        run.due(3, "critical", 0);
        run.due(2, "critical", 1);
        run.due(0, "critical", 2);
    }
}
