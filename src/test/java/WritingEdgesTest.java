/** The boundary cases of promises 1 to 5 and of the terms EVENTS and PLACES, worked out by hand, a sentence each. */
public final class WritingEdgesTest {
    private static final int NONE = Run.NONE;
    private static final int NO = Run.NO;
    private static final int MOST_EVENTS = 40;

    private final Checks checks = new Checks("WritingEdgesTest");

    public static void main(String[] args) {
        WritingEdgesTest test = new WritingEdgesTest();
        test.newObjects();
        test.insertArguments();
        test.deleteArguments();
        test.fortyEvents();
        test.reading();
        test.places();
        test.checks.end();
    }

    private Run start(String part) {
        return new Run(checks, part);
    }

    private void newObjects() {
        newSitesAreEmpty();
        noMessageIsUnderWay();
        believedSetsAreEmpty();
        noEventIsMade();
        objectsShareNothing();
    }

    private void newSitesAreEmpty() {
        Run run = start("1: three sites with empty graphs and texts");
        for (int r = 0; r < 3; r++) {
            run.due(0, "length", r);
            run.due(NONE, "at", r, 0);
            run.due(0, "events", r);
            run.due(0, "heads", r);
            run.due(NONE, "head", r, 0);
            run.due(0, "critical", r);
            run.due(0, "replayed", r);
            run.due(0, "moves", r);
            run.due(NONE, "operation", r, 0);
            run.due(NONE, "delete", r, 0);
        }
    }

    private void noMessageIsUnderWay() {
        Run run = start("1: no message under way");
        for (int m = 0; m < 6; m++) {
            run.due(NONE, "octets", m);
            run.due(NONE, "octet", m, 0);
            run.due(NONE, "deliver", m);
            run.due(NO, "discard", m);
        }
        run.ask("insert", 2, 0, 'a');
        run.due(0, "send", 2, 1);
    }

    private void believedSetsAreEmpty() {
        Run run = start("1: every BELIEVED set empty");
        for (int a = 0; a < 3; a++) {
            for (int b = 0; b < 3; b++) {
                run.due(a == b ? NONE : 0, "believed", a, b);
                run.due(a == b ? NONE : 0, "hear", a, b);
                run.due(NONE, "send", a, b);
            }
        }
    }

    private void noEventIsMade() {
        Run run = start("1: no event");
        for (int a = 0; a < 3; a++) {
            for (int b = 0; b < 3; b++) {
                run.due(NONE, "ancestor", a, 0, b, 0);
            }
        }
        for (int r = 0; r < 3; r++) {
            run.due(0, "insert", r, 0, 'a');
        }
    }

    private void objectsShareNothing() {
        Run first = start("1: an object beside another");
        first.type(0, "abc");
        first.pass(0, 1);
        first.ask("send", 0, 2);
        Run second = start("1: another object");
        second.due(0, "length", 1);
        second.due(0, "believed", 0, 1);
        second.due(NONE, "octets", 0);
        second.due(0, "insert", 1, 0, 'z');
        second.due(0, "send", 1, 0);
        second.due(1, "deliver", 0);
        first.dueText(1, "abc");
        first.due(3, "deliver", 0);
        first.due(0, "insert", 1, 0, 'd');
        second.dueText(0, "z");
    }

    private void insertArguments() {
        insertAtNoSite();
        insertAtEachSite();
        insertIndexInAnEmptyText();
        insertIndexTooSmallOrTooLarge();
        insertIndexCountsShownCharacters();
        insertCharacterTooSmall();
        insertCharacterTooLarge();
        refusedInsertTakesNoNumber();
    }

    private void insertAtNoSite() {
        Run run = start("2: NONE if r is not 0 .. 2");
        run.due(NONE, "insert", -1, 0, 'a');
        run.due(NONE, "insert", 3, 0, 'a');
        for (int r : Run.FAR) {
            run.due(NONE, "insert", r, 0, 'a');
        }
    }

    private void insertAtEachSite() {
        Run run = start("2: r is 0 .. 2");
        run.due(0, "insert", 0, 0, 'a');
        run.due(0, "insert", 2, 0, 'b');
        run.due(0, "insert", 1, 0, 'c');
        run.due(1, "insert", 2, 1, 'd');
        run.due(1, "insert", 0, 1, 'e');
        run.dueText(0, "ae");
        run.dueText(1, "c");
        run.dueText(2, "bd");
    }

    private void insertIndexInAnEmptyText() {
        Run run = start("2: index 0 .. length in an empty text");
        run.ask("insert", 1, 0, 'z');
        run.due(NONE, "insert", 0, -1, 'a');
        run.due(NONE, "insert", 0, 1, 'a');
        run.due(0, "insert", 0, 0, 'a');
        run.dueText(0, "a");
    }

    private void insertIndexTooSmallOrTooLarge() {
        Run run = start("2: NONE if index is not 0 .. length(r)");
        run.type(0, "abc");
        run.due(NONE, "insert", 0, -1, 'x');
        run.due(NONE, "insert", 0, 4, 'x');
        run.due(NONE, "insert", 0, 5, 'x');
        for (int index : Run.FAR) {
            run.due(NONE, "insert", 0, index, 'x');
        }
        run.dueText(0, "abc");
        run.due(3, "insert", 0, 3, 'd');
        run.due(4, "insert", 0, 0, 'e');
        run.due(NONE, "insert", 0, 6, 'x');
        run.dueText(0, "eabcd");
    }

    private void insertIndexCountsShownCharacters() {
        Run run = start("2: length(r) counts no hidden character");
        run.type(0, "abc");
        run.ask("delete", 0, 1);
        run.due(NONE, "insert", 0, 3, 'x');
        run.due(4, "insert", 0, 2, 'x');
        run.dueText(0, "acx");
        run.ask("delete", 0, 0);
        run.ask("delete", 0, 0);
        run.ask("delete", 0, 0);
        run.due(NONE, "insert", 0, 1, 'y');
        run.due(8, "insert", 0, 0, 'y');
        run.dueText(0, "y");
    }

    private void insertCharacterTooSmall() {
        Run run = start("2: NONE if c is below 32");
        run.due(NONE, "insert", 0, 0, 31);
        run.due(NONE, "insert", 0, 0, 10);
        run.due(NONE, "insert", 0, 0, 0);
        run.due(NONE, "insert", 0, 0, -1);
        run.due(0, "insert", 0, 0, 32);
        run.due(1, "insert", 0, 1, 33);
        run.due(32, "at", 0, 0);
        run.due(33, "at", 0, 1);
    }

    private void insertCharacterTooLarge() {
        Run run = start("2: NONE if c is above 126");
        run.due(NONE, "insert", 0, 0, 127);
        run.due(NONE, "insert", 0, 0, 160);
        for (int c : Run.FAR) {
            run.due(NONE, "insert", 0, 0, c);
        }
        run.due(0, "events", 0);
        run.due(0, "insert", 0, 0, 126);
        run.due(1, "insert", 0, 1, 125);
        run.due(126, "at", 0, 0);
        run.due(125, "at", 0, 1);
    }

    private void refusedInsertTakesNoNumber() {
        Run run = start("2: a refused insert takes no number");
        run.due(0, "insert", 1, 0, 'a');
        run.due(NONE, "insert", 1, 2, 'b');
        run.due(NONE, "insert", 1, 0, 127);
        run.due(NONE, "delete", 1, 1);
        run.due(1, "insert", 1, 1, 'b');
        run.due(2, "delete", 1, 0);
        run.due(NONE, "ancestor", 1, 0, 1, 3);
        run.due(1, "ancestor", 1, 1, 1, 2);
    }

    private void deleteArguments() {
        deleteAtNoSite();
        deleteInAnEmptyText();
        deleteIndexTooSmallOrTooLarge();
        deleteIndexCountsShownCharacters();
        deleteOfTheOnlyCharacter();
        deleteAtOneSiteOnly();
    }

    private void deleteAtNoSite() {
        Run run = start("3: NONE if r is not 0 .. 2");
        for (int r = 0; r < 3; r++) {
            run.type(r, "ab");
        }
        run.due(NONE, "delete", -1, 0);
        run.due(NONE, "delete", 3, 0);
        for (int r : Run.FAR) {
            run.due(NONE, "delete", r, 0);
        }
        for (int r = 0; r < 3; r++) {
            run.dueText(r, "ab");
            run.due(2, "delete", r, 0);
            run.dueText(r, "b");
        }
    }

    private void deleteInAnEmptyText() {
        Run run = start("3: NONE in an empty text");
        run.type(1, "ab");
        run.due(NONE, "delete", 0, 0);
        run.due(NONE, "delete", 0, -1);
        run.due(NONE, "delete", 0, 1);
        run.due(0, "events", 0);
    }

    private void deleteIndexTooSmallOrTooLarge() {
        Run run = start("3: NONE if index is not 0 .. length(r) - 1");
        run.type(2, "abcd");
        run.due(NONE, "delete", 2, -1);
        run.due(NONE, "delete", 2, 4);
        run.due(NONE, "delete", 2, 5);
        for (int index : Run.FAR) {
            run.due(NONE, "delete", 2, index);
        }
        run.dueText(2, "abcd");
        run.due(4, "delete", 2, 3);
        run.dueText(2, "abc");
        run.due(5, "delete", 2, 0);
        run.dueText(2, "bc");
    }

    private void deleteIndexCountsShownCharacters() {
        Run run = start("3: length(r) counts no hidden character");
        run.type(0, "abc");
        run.due(3, "delete", 0, 1);
        run.due(NONE, "delete", 0, 2);
        run.due(4, "delete", 0, 1);
        run.dueText(0, "a");
        run.due(NONE, "delete", 0, 1);
        run.dueText(0, "a");
    }

    private void deleteOfTheOnlyCharacter() {
        Run run = start("3: a text of one character, then of none");
        run.type(0, "a");
        run.due(1, "delete", 0, 0);
        run.dueText(0, "");
        run.due(NONE, "delete", 0, 0);
        run.due(2, "events", 0);
        run.due(2, "insert", 0, 0, 'b');
        run.dueText(0, "b");
    }

    private void deleteAtOneSiteOnly() {
        Run run = start("3: a delete takes the character out of the text of its site");
        run.type(0, "ab");
        run.pass(0, 1);
        run.due(0, "delete", 1, 1);
        run.due(NONE, "delete", 1, 1);
        run.due(2, "delete", 0, 1);
        run.dueText(0, "a");
        run.dueText(1, "a");
        run.pass(1, 0);
        run.dueText(0, "a");
        run.due(NONE, "delete", 0, 1);
    }

    private void fortyEvents() {
        fortyEventsOfOneSite();
        fortyEventsOfAllSites();
        fortyEventsCountDeletes();
        fortiethIsADelete();
        fortyEventsCountNoDelivery();
        fortyEventsCountNoRefusedCall();
        allElseGoesOnWithFortyEvents();
    }

    private void dueNoMoreEvents(Run run) {
        for (int r = 0; r < 3; r++) {
            run.due(NONE, "insert", r, 0, 'x');
            run.due(NONE, "delete", r, 0);
        }
    }

    private void fortyEventsOfOneSite() {
        for (int r = 0; r < 3; r++) {
            Run run = start("2: NONE if 40 events have been made, all by site " + r);
            for (int k = 0; k < MOST_EVENTS; k++) {
                run.due(k, "insert", r, k, 'a' + k % 26);
            }
            dueNoMoreEvents(run);
            run.dueText(r, "abcdefghijklmnopqrstuvwxyzabcdefghijklmn");
            run.due(40, "events", r);
        }
    }

    private void fortyEventsOfAllSites() {
        Run run = start("2: 40 events in all, by three sites");
        for (int k = 0; k < MOST_EVENTS; k++) {
            run.due(k / 3, "insert", k % 3, 0, 'a');
        }
        dueNoMoreEvents(run);
        run.due(14, "events", 0);
        run.due(13, "events", 1);
        run.due(13, "events", 2);
    }

    private void fortyEventsCountDeletes() {
        Run run = start("3: NONE if 40 events have been made, deletes among them");
        for (int k = 0; k < 21; k++) {
            run.due(k, "insert", 0, 0, 'a');
        }
        for (int k = 21; k < MOST_EVENTS; k++) {
            run.due(k, "delete", 0, 0);
        }
        dueNoMoreEvents(run);
        run.dueText(0, "aa");
        run.due(40, "events", 0);
    }

    private void fortiethIsADelete() {
        Run run = start("3: the 40th event may be a delete");
        for (int k = 0; k < MOST_EVENTS - 1; k++) {
            run.due(k, "insert", 0, k, 'a');
        }
        run.due(39, "delete", 0, 38);
        run.due(NONE, "delete", 0, 37);
        run.due(NONE, "insert", 0, 38, 'a');
        run.due(38, "length", 0);
    }

    private void fortyEventsCountNoDelivery() {
        Run run = start("2: what is merged is not made");
        run.type(0, "aaaaaaaaaaaaaaaaaaaa");
        run.pass(0, 1);
        run.pass(0, 2);
        run.pass(1, 2);
        for (int k = 0; k < 20; k++) {
            run.due(k, "insert", 1, 0, 'b');
        }
        dueNoMoreEvents(run);
        run.due(40, "length", 1);
        run.due(20, "length", 0);
    }

    private void fortyEventsCountNoRefusedCall() {
        Run run = start("2: a refused call makes no event");
        for (int k = 0; k < 50; k++) {
            run.due(NONE, "insert", 0, 1, 'a');
            run.due(NONE, "delete", 0, 0);
            run.due(NONE, "insert", 0, 0, 31);
            run.due(NONE, "insert", 3, 0, 'a');
        }
        for (int k = 0; k < MOST_EVENTS; k++) {
            run.due(k, "insert", 0, 0, 'a');
        }
        dueNoMoreEvents(run);
    }

    private void allElseGoesOnWithFortyEvents() {
        Run run = start("2, 3: with 40 events all other calls go on");
        for (int k = 0; k < MOST_EVENTS; k++) {
            run.ask("insert", 0, 0, 'a');
        }
        dueNoMoreEvents(run);
        run.due(0, "send", 0, 1);
        run.due(40, "deliver", 0);
        run.due(40, "length", 1);
        run.due(40, "hear", 1, 0);
        run.due(1, "send", 0, 2);
        run.due(40, "deliver", 1);
        run.due(1, "heads", 2);
        run.due(3 * 39, "head", 2, 0);
        dueNoMoreEvents(run);
        run.due(40, "critical", 2);
    }

    private void reading() {
        lengthOfNoSite();
        lengthEmptyAndFull();
        atNoSite();
        atTooSmallOrTooLarge();
        atInAnEmptyText();
    }

    private void lengthOfNoSite() {
        Run run = start("4: NONE if r is not 0 .. 2");
        run.type(0, "a");
        run.type(2, "bc");
        run.due(NONE, "length", -1);
        run.due(NONE, "length", 3);
        for (int r : Run.FAR) {
            run.due(NONE, "length", r);
        }
        run.due(1, "length", 0);
        run.due(0, "length", 1);
        run.due(2, "length", 2);
    }

    private void lengthEmptyAndFull() {
        Run run = start("4: from 0 to 40");
        for (int k = 0; k < MOST_EVENTS; k++) {
            run.due(k, "length", 1);
            run.ask("insert", 1, k / 2, 'a');
        }
        run.due(40, "length", 1);
        run.due(0, "length", 0);
        run.pass(1, 0);
        run.due(40, "length", 0);
    }

    private void atNoSite() {
        Run run = start("5: NONE if r is not 0 .. 2");
        for (int r = 0; r < 3; r++) {
            run.type(r, "xyz".substring(r));
        }
        run.due(NONE, "at", -1, 0);
        run.due(NONE, "at", 3, 0);
        for (int r : Run.FAR) {
            run.due(NONE, "at", r, 0);
        }
        run.due('x', "at", 0, 0);
        run.due('y', "at", 1, 0);
        run.due('z', "at", 2, 0);
    }

    private void atTooSmallOrTooLarge() {
        Run run = start("5: NONE if k is not 0 .. length(r) - 1");
        run.type(1, "abcd");
        run.due(NONE, "at", 1, -1);
        run.due('a', "at", 1, 0);
        run.due('d', "at", 1, 3);
        run.due(NONE, "at", 1, 4);
        run.due(NONE, "at", 1, 40);
        for (int k : Run.FAR) {
            run.due(NONE, "at", 1, k);
        }
        run.ask("delete", 1, 3);
        run.due('c', "at", 1, 2);
        run.due(NONE, "at", 1, 3);
        run.ask("delete", 1, 0);
        run.due('b', "at", 1, 0);
        run.due(NONE, "at", 1, 2);
    }

    private void atInAnEmptyText() {
        Run run = start("5: NONE in an empty text");
        run.due(NONE, "at", 0, 0);
        run.type(0, "a");
        run.ask("delete", 0, 0);
        run.due(NONE, "at", 0, 0);
        run.due(NONE, "at", 0, -1);
        run.due(NONE, "at", 0, 1);
    }

    private void places() {
        startWithHiddenCharactersOnly();
        startBeforeAHiddenFirst();
        leftWithAHiddenRightChild();
        hiddenNextIsNotPassedOver();
        rightChildOutsideTheAncestors();
        childrenInTheOrderOfIdentifiers();
        hiddenTwice();
    }

    /** The character of site 0 is a left child of the hidden one, not a right child of START. */
    private void startWithHiddenCharactersOnly() {
        Run run = start("PLACES: START has a hidden right child");
        run.type(0, "a");
        run.pass(0, 1);
        run.ask("delete", 0, 0);
        run.ask("insert", 0, 0, 'b');
        run.ask("insert", 1, 0, 'c');
        run.pass(1, 0);
        run.dueText(0, "bc");
        run.pass(0, 1);
        run.dueText(1, "bc");
    }

    private void startBeforeAHiddenFirst() {
        Run run = start("PLACES: behind START the first, though it is hidden");
        run.type(0, "ab");
        run.pass(0, 1);
        run.ask("delete", 0, 0);
        run.ask("insert", 0, 0, 'x');
        run.ask("insert", 1, 1, 'y');
        run.pass(1, 0);
        run.dueText(0, "xyb");
    }

    private void leftWithAHiddenRightChild() {
        Run run = start("PLACES: LEFT has a hidden right child");
        run.type(0, "ab");
        run.pass(0, 1);
        run.ask("delete", 0, 1);
        run.ask("insert", 0, 1, 'x');
        run.ask("insert", 1, 1, 'y');
        run.pass(1, 0);
        run.dueText(0, "axy");
        run.pass(0, 1);
        run.dueText(1, "axy");
    }

    private void hiddenNextIsNotPassedOver() {
        Run run = start("PLACES: hidden ones not passed over");
        run.type(0, "abc");
        run.pass(0, 1);
        run.ask("delete", 0, 1);
        run.ask("insert", 0, 1, 'x');
        run.ask("insert", 1, 1, 'y');
        run.pass(1, 0);
        run.dueText(0, "axyc");
        run.pass(0, 1);
        run.dueText(1, "axyc");
    }

    /** Site 1 does not know of b, so its character is a right child of a as well. */
    private void rightChildOutsideTheAncestors() {
        Run run = start("PLACES: a right child that no insert of A made");
        run.type(0, "a");
        run.pass(0, 1);
        run.ask("insert", 0, 1, 'b');
        run.ask("insert", 0, 1, 'c');
        run.ask("insert", 1, 1, 'd');
        run.pass(1, 0);
        run.dueText(0, "acbd");
        run.pass(0, 1);
        run.dueText(1, "acbd");
    }

    private void childrenInTheOrderOfIdentifiers() {
        Run run = start("PLACES: by the site, then by the number");
        run.type(1, "xx");
        run.ask("delete", 1, 0);
        run.ask("delete", 1, 0);
        run.pass(1, 0);
        run.pass(1, 2);
        run.ask("insert", 1, 0, 'b');
        run.ask("insert", 2, 0, 'c');
        run.ask("insert", 0, 0, 'a');
        run.pass(2, 0);
        run.pass(1, 0);
        run.dueText(0, "abc");
        run.pass(1, 2);
        run.dueText(2, "bc");
        run.pass(0, 2);
        run.dueText(2, "abc");
    }

    private void hiddenTwice() {
        Run run = start("PLACES: two deletes take out the same character");
        run.type(0, "ab");
        run.pass(0, 1);
        run.pass(0, 2);
        run.ask("delete", 0, 0);
        run.ask("delete", 1, 0);
        run.pass(1, 0);
        run.dueText(0, "b");
        run.due(4, "events", 0);
        run.pass(0, 2);
        run.dueText(2, "b");
    }
}
