/** The boundary cases of promises 6 to 10 and of the term MESSAGES, worked out by hand, a sentence each. */
public final class MessageEdgesTest {
    private static final int NONE = Run.NONE;
    private static final int MISSING = Run.MISSING;
    private static final int NO = Run.NO;
    private static final int YES = Run.YES;
    private static final String FORTY = "abcdefghijklmnopqrstuvwxyzabcdefghijklmn";

    private final Checks checks = new Checks("MessageEdgesTest");

    public static void main(String[] args) {
        MessageEdgesTest test = new MessageEdgesTest();
        test.sending();
        test.delivering();
        test.discarding();
        test.hearing();
        test.believing();
        test.checks.end();
    }

    private Run start(String part) {
        return new Run(checks, part);
    }

    private Run startWithTexts(String part) {
        Run run = start(part);
        run.type(0, "ab");
        run.type(1, "cde");
        run.type(2, "f");
        return run;
    }

    private void dueRefusedForPairs(Run run, String name) {
        for (int r = 0; r < 3; r++) {
            run.due(NONE, name, r, r);
            run.due(NONE, name, r, -1);
            run.due(NONE, name, r, 3);
            run.due(NONE, name, -1, r);
            run.due(NONE, name, 3, r);
        }
        for (int far : Run.FAR) {
            run.due(NONE, name, 0, far);
            run.due(NONE, name, far, 0);
            run.due(NONE, name, far, 2);
            run.due(NONE, name, far, far);
        }
    }

    private void dueNoMessage(Run run, int m) {
        run.due(NONE, "deliver", m);
        run.due(NO, "discard", m);
        run.due(NONE, "octets", m);
        run.due(NONE, "octet", m, 0);
    }

    private void sending() {
        sendBetweenNoTwoSites();
        sendBetweenEachTwoSites();
        sendOfAnEmptyGraph();
        sendOfWhatIsBelieved();
        sendOfWhatCameFromThere();
        sixMessages();
        seventhMessage();
        leastFreeNumber();
        messageKeepsWhatItCarries();
        refusedSendBelievesNothing();
        sendChangesOneSetOnly();
    }

    private void sendBetweenNoTwoSites() {
        Run run = startWithTexts("6: NONE if one is not 0 .. 2 or both are the same");
        dueRefusedForPairs(run, "send");
        run.due(0, "send", 0, 2);
    }

    private void sendBetweenEachTwoSites() {
        Run run = startWithTexts("6: from and to are 0 .. 2");
        int m = 0;
        for (int from = 2; from >= 0; from--) {
            for (int to = 0; to < 3; to++) {
                if (from != to) {
                    run.due(m, "send", from, to);
                    m++;
                }
            }
        }
        run.due(1, "deliver", 0);
        run.due(1, "deliver", 1);
        run.due(3, "deliver", 2);
        run.due(3, "deliver", 3);
        run.due(2, "deliver", 4);
        run.due(2, "deliver", 5);
    }

    private void sendOfAnEmptyGraph() {
        Run run = start("6: NONE if the graph is empty");
        run.type(0, "a");
        run.due(NONE, "send", 1, 0);
        run.due(NONE, "send", 2, 0);
        run.due(0, "send", 0, 1);
    }

    private void sendOfWhatIsBelieved() {
        Run run = start("6: NONE if the message would carry no event");
        run.type(0, "ab");
        run.due(0, "send", 0, 1);
        run.due(NONE, "send", 0, 1);
        run.due(1, "send", 0, 2);
        run.due(NONE, "send", 0, 2);
        run.due(YES, "discard", 0);
        run.due(NONE, "send", 0, 1);
        run.type(0, "c");
        run.due(0, "send", 0, 1);
        run.due(1, "octet", 0, 0);
        run.due(NONE, "send", 0, 1);
        run.due(0, "hear", 0, 1);
        run.due(2, "send", 0, 1);
        run.due(3, "octet", 2, 0);
    }

    private void sendOfWhatCameFromThere() {
        Run run = start("6: what came from a site is not sent back to it");
        run.type(0, "ab");
        run.pass(0, 1);
        run.due(NONE, "send", 1, 0);
        run.due(0, "send", 1, 2);
        run.type(1, "c");
        run.due(1, "send", 1, 0);
        run.due(1, "deliver", 1);
        run.dueText(0, "abc");
    }

    private void sixMessages() {
        Run run = start("6: numbers 0 .. 5");
        for (int m = 0; m < 6; m++) {
            run.ask("insert", m % 3, 0, 'a' + m);
            run.due(m, "send", m % 3, (m + 1) % 3);
        }
        for (int m = 0; m < 6; m++) {
            run.due(1, "octet", m, 0);
            run.due(1, "deliver", m);
        }
        dueNoMessage(run, -1);
        dueNoMessage(run, 6);
        dueNoMessage(run, 7);
    }

    private Run startWithSixMessages(String part) {
        Run run = start(part);
        for (int m = 0; m < 6; m++) {
            run.ask("insert", 0, m, 'a' + m);
            run.due(m, "send", 0, 1);
        }
        run.ask("insert", 0, 6, 'g');
        return run;
    }

    private void seventhMessage() {
        Run run = startWithSixMessages("6: NONE if no number is free");
        run.type(2, "x");
        run.due(NONE, "send", 0, 1);
        run.due(NONE, "send", 0, 2);
        run.due(NONE, "send", 2, 1);
        run.due(1, "deliver", 0);
        run.due(NONE, "send", 0, 1);
        for (int m = 0; m < 6; m++) {
            run.due(YES, "discard", m);
            run.due(m, "send", 0, 1);
            run.due(1, "octet", m, 0);
            run.due(NONE, "send", 2, 0);
            run.ask("insert", 0, 0, 'h');
            run.due(NONE, "send", 0, 1);
        }
    }

    private void leastFreeNumber() {
        Run run = startWithSixMessages("6: the least free number");
        run.due(YES, "discard", 5);
        run.due(YES, "discard", 3);
        run.due(YES, "discard", 0);
        run.due(0, "send", 0, 1);
        run.due(3, "send", 0, 2);
        run.ask("insert", 0, 0, 'h');
        run.due(5, "send", 0, 2);
        run.due(NONE, "send", 0, 1);
        run.due(7, "deliver", 3);
        run.due(1, "deliver", 5);
        run.due(MISSING, "deliver", 0);
    }

    private void messageKeepsWhatItCarries() {
        Run run = start("6: a message carries what was there when it was sent");
        run.type(0, "ab");
        run.due(0, "send", 0, 1);
        run.due(12, "octets", 0);
        run.type(0, "cd");
        run.due(12, "octets", 0);
        run.due(2, "octet", 0, 0);
        run.due(2, "deliver", 0);
        run.dueText(1, "ab");
        run.due(2, "events", 1);
    }

    private void refusedSendBelievesNothing() {
        Run run = startWithSixMessages("6: a refused send adds nothing to BELIEVED");
        run.due(6, "believed", 0, 1);
        run.due(NONE, "send", 0, 1);
        run.due(NONE, "send", 0, 2);
        run.due(6, "believed", 0, 1);
        run.due(0, "believed", 0, 2);
        run.due(YES, "discard", 5);
        run.due(5, "send", 0, 1);
        run.due(7, "believed", 0, 1);
        run.due(1, "octet", 5, 0);
    }

    private void sendChangesOneSetOnly() {
        for (int from = 0; from < 3; from++) {
            for (int to = 0; to < 3; to++) {
                if (from != to) {
                    Run run = startWithTexts("6: BELIEVED(" + from + ", " + to + ") and no other");
                    run.due(0, "send", from, to);
                    dueBelievedInOneSet(run, from, to, run.ask("events", from));
                }
            }
        }
    }

    private void dueBelievedInOneSet(Run run, int from, int to, int want) {
        for (int a = 0; a < 3; a++) {
            for (int b = 0; b < 3; b++) {
                if (a != b) {
                    run.due(a == from && b == to ? want : 0, "believed", a, b);
                }
            }
        }
    }

    private void delivering() {
        deliverNoMessage();
        deliverADiscardedMessage();
        parentIsMissing();
        oneOfTwoParentsIsMissing();
        knownEventsWithOneThatLacksAParent();
        parentIsCarried();
        parentIsInTheGraph();
        noneOfTheEventsIsNew();
        someOfTheEventsAreNew();
        ownEventsComeBack();
        fortyEventsAreNew();
        deliveredOften();
        deliveryChangesOneSetOnly();
        carriedEventsOnlyAreBelieved();
    }

    private void deliverNoMessage() {
        Run run = start("7: NONE if there is no such message");
        run.type(0, "ab");
        for (int m = -1; m <= 6; m++) {
            run.due(NONE, "deliver", m);
        }
        run.due(0, "send", 0, 1);
        run.due(NONE, "deliver", -1);
        for (int m = 1; m <= 6; m++) {
            run.due(NONE, "deliver", m);
        }
        for (int m : Run.FAR) {
            run.due(NONE, "deliver", m);
        }
        run.due(0, "events", 1);
        run.due(2, "deliver", 0);
    }

    private void deliverADiscardedMessage() {
        Run run = start("7: NONE if the message was discarded");
        run.type(0, "ab");
        run.due(0, "send", 0, 1);
        run.due(1, "send", 0, 2);
        run.due(YES, "discard", 0);
        run.due(NONE, "deliver", 0);
        run.due(0, "events", 1);
        run.due(0, "believed", 1, 0);
        run.due(2, "deliver", 1);
        run.due(YES, "discard", 1);
        run.due(NONE, "deliver", 1);
    }

    private void parentIsMissing() {
        Run run = start("7: MISSING if a parent is missing");
        run.type(0, "a");
        run.due(0, "send", 0, 1);
        run.type(0, "b");
        run.due(1, "send", 0, 1);
        run.type(0, "c");
        run.due(2, "send", 0, 1);
        run.due(MISSING, "deliver", 2);
        run.due(MISSING, "deliver", 1);
        run.due(0, "believed", 1, 0);
        run.due(0, "events", 1);
        run.due(0, "length", 1);
        run.dueMerge(1, 0, 0);
        run.due(1, "deliver", 0);
        run.due(MISSING, "deliver", 2);
        run.due(1, "believed", 1, 0);
        run.dueText(1, "a");
        run.dueMerge(1, 0, 0, 0);
        run.due(1, "deliver", 1);
        run.due(1, "deliver", 2);
        run.dueText(1, "abc");
    }

    /** The event without parents could be taken by itself, but the delivery is refused whole. */
    private void oneOfTwoParentsIsMissing() {
        Run run = start("7: MISSING if one of two parents is missing");
        run.type(0, "a");
        run.due(0, "send", 0, 1);
        run.type(2, "c");
        run.due(1, "send", 2, 0);
        run.due(1, "deliver", 1);
        run.type(0, "d");
        run.due(2, "send", 0, 1);
        run.due(2, "octet", 2, 0);
        run.due(MISSING, "deliver", 2);
        run.due(0, "events", 1);
        run.due(0, "heads", 1);
        run.due(0, "believed", 1, 0);
        run.due(NONE, "operation", 1, 0);
        run.due(1, "deliver", 0);
        run.due(2, "deliver", 2);
        run.dueText(1, "acd");
        run.due(3, "believed", 1, 0);
    }

    /** Site 1 has the event of site 2 already; a refused delivery must not tell it that site 0 has it too. */
    private void knownEventsWithOneThatLacksAParent() {
        Run run = start("7: a refused delivery adds nothing to BELIEVED");
        run.type(0, "a");
        run.due(0, "send", 0, 1);
        run.type(2, "c");
        run.due(1, "send", 2, 0);
        run.due(1, "deliver", 1);
        run.due(2, "send", 2, 1);
        run.due(1, "deliver", 2);
        run.type(0, "d");
        run.due(3, "send", 0, 1);
        run.due(2, "octet", 3, 0);
        run.due(MISSING, "deliver", 3);
        run.due(0, "believed", 1, 0);
        run.due(4, "send", 1, 0);
        run.due(1, "octet", 4, 0);
    }

    private void parentIsCarried() {
        Run run = start("7: a parent that is carried is not missing");
        run.type(0, "abc");
        run.due(0, "send", 0, 1);
        run.due(3, "deliver", 0);
        run.due(3, "events", 1);
    }

    /** The parent came to site 1 by way of site 2, and is not carried by the message from site 0. */
    private void parentIsInTheGraph() {
        Run run = start("7: a parent in the graph is not missing");
        run.type(0, "a");
        run.due(0, "send", 0, 1);
        run.pass(0, 2);
        run.type(0, "b");
        run.due(1, "send", 0, 1);
        run.due(MISSING, "deliver", 1);
        run.pass(2, 1);
        run.due(1, "deliver", 1);
        run.due(2, "believed", 1, 0);
        run.dueText(1, "ab");
        run.due(0, "deliver", 0);
        run.due(2, "believed", 1, 0);
    }

    private void noneOfTheEventsIsNew() {
        Run run = start("7: 0 if no event is NEW; no MERGE");
        run.type(0, "ab");
        run.pass(0, 1);
        run.pass(1, 2);
        run.dueMerge(2, 0, 0, 0, 1);
        run.type(2, "c");
        run.due(0, "believed", 2, 0);
        run.due(0, "send", 0, 2);
        run.due(0, "deliver", 0);
        run.due(2, "believed", 2, 0);
        run.due(3, "events", 2);
        run.due(1, "heads", 2);
        run.dueMerge(2, 0, 0, 0, 1);
        run.dueText(2, "abc");
    }

    private void someOfTheEventsAreNew() {
        Run run = start("7: how many events are NEW");
        run.type(0, "ab");
        run.pass(0, 1);
        run.pass(1, 2);
        run.type(0, "c");
        run.due(0, "send", 0, 2);
        run.due(3, "octet", 0, 0);
        run.due(1, "deliver", 0);
        run.dueMerge(2, 0, 0, 2);
        run.due(0, "deliver", 0);
        run.dueText(2, "abc");
    }

    private void ownEventsComeBack() {
        Run run = start("7: a site's own events are not NEW to it");
        run.type(0, "ab");
        run.pass(0, 1);
        run.type(0, "c");
        run.due(0, "hear", 1, 0);
        run.due(0, "send", 1, 0);
        run.due(2, "octet", 0, 0);
        run.type(1, "d");
        run.due(0, "hear", 0, 1);
        run.due(0, "deliver", 0);
        run.due(2, "believed", 0, 1);
        run.dueMerge(0, 0, 0);
        run.dueText(0, "abc");
    }

    private void fortyEventsAreNew() {
        Run run = start("7: 40 events are NEW");
        run.type(0, FORTY);
        run.due(0, "send", 0, 1);
        run.due(40, "deliver", 0);
        run.due(0, "deliver", 0);
        run.due(40, "believed", 1, 0);
        run.due(40, "events", 1);
        run.dueText(1, FORTY);
    }

    private void deliveredOften() {
        Run run = start("7: a message stays under way");
        run.type(0, "a");
        run.due(0, "send", 0, 1);
        run.due(1, "deliver", 0);
        for (int k = 0; k < 20; k++) {
            run.due(0, "deliver", 0);
        }
        run.due(9, "octets", 0);
        run.due(NONE, "send", 0, 1);
        run.due(1, "send", 0, 2);
        run.due(YES, "discard", 0);
        run.due(NONE, "deliver", 0);
    }

    private void deliveryChangesOneSetOnly() {
        Run run = startWithTexts("7: BELIEVED(b, a) and no other");
        run.due(0, "send", 0, 1);
        run.due(0, "hear", 0, 1);
        run.due(2, "deliver", 0);
        dueBelievedInOneSet(run, 1, 0, 2);
    }

    /** Both sites have the event of site 2, but the message does not tell so. */
    private void carriedEventsOnlyAreBelieved() {
        Run run = start("7: the carried events and all their ancestors, and no other");
        run.type(0, "a");
        run.due(0, "send", 0, 1);
        run.type(2, "c");
        run.pass(2, 0);
        run.pass(2, 1);
        run.due(1, "deliver", 0);
        run.due(2, "events", 1);
        run.due(1, "believed", 1, 0);
    }

    private void discarding() {
        discardNoMessage();
        discardTwice();
        discardNoneOfSix();
        discardOneOfMany();
        discardTakesNothingBack();
    }

    private void discardNoMessage() {
        Run run = start("8: false if there was no such message");
        for (int m = -1; m <= 6; m++) {
            run.due(NO, "discard", m);
        }
        run.type(0, "a");
        run.due(0, "send", 0, 1);
        run.due(NO, "discard", -1);
        for (int m = 1; m <= 6; m++) {
            run.due(NO, "discard", m);
        }
        for (int m : Run.FAR) {
            run.due(NO, "discard", m);
        }
        run.due(1, "deliver", 0);
        run.due(YES, "discard", 0);
    }

    private void discardTwice() {
        Run run = start("8: under way no more");
        run.type(0, "a");
        run.due(0, "send", 0, 1);
        run.due(YES, "discard", 0);
        dueNoMessage(run, 0);
        run.due(NO, "discard", 0);
        run.due(0, "send", 0, 2);
        run.due(1, "deliver", 0);
        run.due(YES, "discard", 0);
        dueNoMessage(run, 0);
    }

    private void discardNoneOfSix() {
        Run run = startWithSixMessages("8: a number that is not 0 .. 5, with six messages");
        for (int m : new int[] {-1, 6, 7, 11, 12}) {
            run.due(NO, "discard", m);
        }
        for (int m : Run.FAR) {
            run.due(NO, "discard", m);
        }
        run.due(NONE, "send", 0, 2);
        for (int m = 0; m < 6; m++) {
            run.due(1, "deliver", m);
        }
    }

    private void discardOneOfMany() {
        for (int gone = 0; gone < 6; gone++) {
            Run run = startWithSixMessages("8: message " + gone + " of six");
            run.due(YES, "discard", gone);
            for (int m = 0; m < 6; m++) {
                run.due(m == gone ? NONE : 1, "octet", m, 0);
                run.due(m < gone ? 1 : m == gone ? NONE : MISSING, "deliver", m);
            }
            dueNoMessage(run, gone);
            run.due(gone, "send", 0, 1);
            run.due(7, "believed", 0, 1);
        }
    }

    private void discardTakesNothingBack() {
        Run run = start("8: what was sent is still believed, what was delivered stays");
        run.type(0, "ab");
        run.due(0, "send", 0, 1);
        run.due(YES, "discard", 0);
        run.due(2, "believed", 0, 1);
        run.due(NONE, "send", 0, 1);
        run.due(0, "send", 0, 2);
        run.due(2, "deliver", 0);
        run.due(YES, "discard", 0);
        run.dueText(2, "ab");
        run.due(2, "believed", 2, 0);
        run.dueMerge(2, 0, 0, 0, 1);
    }

    private void hearing() {
        hearBetweenNoTwoSites();
        hearAnEmptyGraph();
        hearWithAnEmptyGraph();
        hearOfUnknownHeads();
        hearOfThreeHeads();
        hearOfFortyEvents();
        hearChangesOneSetOnly();
    }

    private void hearBetweenNoTwoSites() {
        Run run = startWithTexts("9: NONE if one is not 0 .. 2 or both are the same");
        run.pass(0, 1);
        dueRefusedForPairs(run, "hear");
        run.due(2, "believed", 0, 1);
        run.due(2, "believed", 1, 0);
        run.due(2, "hear", 1, 0);
    }

    private void hearAnEmptyGraph() {
        Run run = start("9: the other graph is empty");
        run.type(0, "abc");
        run.due(0, "send", 0, 1);
        run.due(3, "believed", 0, 1);
        run.due(0, "hear", 0, 1);
        run.due(0, "believed", 0, 1);
        run.due(1, "send", 0, 1);
        run.dueText(0, "abc");
    }

    private void hearWithAnEmptyGraph() {
        Run run = start("9: the own graph is empty");
        run.type(0, "abc");
        run.due(0, "hear", 1, 0);
        run.due(0, "believed", 1, 0);
        run.due(0, "events", 1);
        run.due(0, "hear", 1, 2);
    }

    /** The known ancestors of a head that is not known are not taken in. */
    private void hearOfUnknownHeads() {
        Run run = start("9: those of these heads that are in from's graph");
        run.type(0, "ab");
        run.pass(0, 1);
        run.due(2, "hear", 0, 1);
        run.type(1, "c");
        run.due(0, "hear", 0, 1);
        run.due(0, "believed", 0, 1);
        run.type(0, "d");
        run.pass(0, 1);
        run.due(2, "heads", 1);
        run.due(3, "hear", 0, 1);
        run.pass(1, 0);
        run.due(4, "hear", 0, 1);
        run.due(4, "hear", 1, 0);
    }

    private void hearOfThreeHeads() {
        Run run = startWithTexts("9: the heads and all ancestors of these");
        run.pass(0, 1);
        run.pass(2, 1);
        run.due(3, "heads", 1);
        run.due(2, "hear", 0, 1);
        run.due(1, "hear", 2, 1);
        run.pass(1, 0);
        run.due(6, "hear", 0, 1);
        run.due(6, "hear", 1, 0);
        run.ask("delete", 1, 0);
        run.due(0, "hear", 0, 1);
        run.due(6, "hear", 1, 0);
    }

    private void hearOfFortyEvents() {
        Run run = start("9: 40 events");
        run.type(2, FORTY);
        run.due(0, "hear", 0, 2);
        run.pass(2, 0);
        run.due(40, "hear", 0, 2);
        run.due(40, "hear", 2, 0);
        run.due(0, "hear", 2, 1);
        run.due(40, "believed", 0, 2);
    }

    private void hearChangesOneSetOnly() {
        Run run = start("9: BELIEVED(from, to) and no other");
        run.type(0, "ab");
        run.pass(0, 1);
        run.ask("send", 0, 2);
        run.ask("send", 1, 2);
        run.type(1, "c");
        run.due(0, "hear", 0, 1);
        run.due(2, "believed", 1, 0);
        run.due(2, "believed", 0, 2);
        run.due(2, "believed", 1, 2);
        run.due(0, "believed", 2, 0);
        run.due(0, "believed", 2, 1);
        run.due(2, "deliver", 0);
        run.dueText(0, "ab");
    }

    private void believing() {
        believedBetweenNoTwoSites();
        believedGrowsAndShrinks();
        carriedEventsWithAllAncestors();
    }

    private void believedBetweenNoTwoSites() {
        Run run = startWithTexts("10: NONE if one is not 0 .. 2 or both are the same");
        run.ask("send", 0, 1);
        run.ask("send", 1, 2);
        dueRefusedForPairs(run, "believed");
        run.due(2, "believed", 0, 1);
        run.due(3, "believed", 1, 2);
        run.due(0, "believed", 2, 0);
    }

    private void believedGrowsAndShrinks() {
        Run run = start("10: from 0 to 40 and back");
        run.due(0, "believed", 0, 1);
        run.type(0, FORTY.substring(0, 39));
        run.due(0, "believed", 0, 1);
        run.due(0, "send", 0, 1);
        run.due(39, "believed", 0, 1);
        run.type(0, "z");
        run.due(39, "believed", 0, 1);
        run.due(1, "send", 0, 1);
        run.due(40, "believed", 0, 1);
        run.due(0, "believed", 1, 0);
        run.due(39, "deliver", 0);
        run.due(39, "believed", 1, 0);
        run.due(1, "deliver", 1);
        run.due(40, "believed", 1, 0);
        run.due(0, "hear", 0, 2);
        run.due(40, "hear", 0, 1);
    }

    private void carriedEventsWithAllAncestors() {
        Run run = start("10: the carried events and all their ancestors");
        run.type(0, "abc");
        run.pass(0, 1);
        run.type(0, "d");
        run.due(0, "hear", 1, 0);
        run.due(0, "believed", 1, 0);
        run.due(0, "send", 0, 1);
        run.due(1, "octet", 0, 0);
        run.due(1, "deliver", 0);
        run.due(4, "believed", 1, 0);
        run.type(0, "e");
        run.due(0, "hear", 1, 0);
        run.due(0, "deliver", 0);
        run.due(4, "believed", 1, 0);
    }
}
