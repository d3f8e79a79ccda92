import java.util.ArrayList;
import java.util.List;

/** The boundary cases of promises 11 and 12 and of the term OCTETS, worked out by hand, a sentence each. */
public final class OctetEdgesTest {
    private static final int NONE = Run.NONE;
    private static final int YES = Run.YES;

    private final Checks checks = new Checks("OctetEdgesTest");

    public static void main(String[] args) {
        OctetEdgesTest test = new OctetEdgesTest();
        test.octetsOfNoMessage();
        test.octetOfNoMessage();
        test.octetTooSmallOrTooLarge();
        test.octetsOfANumberUsedAgain();
        test.octetsStayAsTheyWere();
        test.numberOfOneOctetAndOfTwo();
        test.signedDifferences();
        test.indexOfTheFirst();
        test.greatestIndexDifferences();
        test.shortestMessages();
        test.firstRunIsForInserts();
        test.runsOfOneKind();
        test.runsOfOneSite();
        test.noParents();
        test.onlyParentJustBefore();
        test.onlyParentNotJustBefore();
        test.twoParentsOneJustBefore();
        test.parentNotCarried();
        test.threeParents();
        test.parentWithTheGreatestNumber();
        test.fortyEvents();
        test.longMessage();
        test.checks.end();
    }

    private Run start(String part) {
        return new Run(checks, part);
    }

    private void octetsOfNoMessage() {
        Run run = start("11: NONE if there is no such message");
        for (int m = -1; m <= 6; m++) {
            run.due(NONE, "octets", m);
        }
        run.type(0, "a");
        run.ask("send", 0, 1);
        run.due(NONE, "octets", -1);
        run.due(9, "octets", 0);
        for (int m = 1; m <= 6; m++) {
            run.due(NONE, "octets", m);
        }
        for (int m : Run.FAR) {
            run.due(NONE, "octets", m);
        }
        run.due(YES, "discard", 0);
        run.due(NONE, "octets", 0);
    }

    private void octetOfNoMessage() {
        Run run = start("12: NONE if there is no such message");
        for (int m = -1; m <= 6; m++) {
            run.due(NONE, "octet", m, 0);
        }
        run.type(0, "a");
        run.ask("send", 0, 1);
        run.due(NONE, "octet", -1, 0);
        run.due(1, "octet", 0, 0);
        for (int m = 1; m <= 6; m++) {
            run.due(NONE, "octet", m, 0);
        }
        for (int m : Run.FAR) {
            run.due(NONE, "octet", m, 0);
        }
        run.due(YES, "discard", 0);
        run.due(NONE, "octet", 0, 0);
        run.due(NONE, "octet", 0, 8);
    }

    private void octetTooSmallOrTooLarge() {
        Run run = start("12: NONE if k is not 0 .. octets(m) - 1");
        run.type(0, "a");
        run.ask("send", 0, 1);
        run.type(2, "bbb");
        run.ask("send", 2, 1);
        run.dueOctets(0, 1, 0, 0, 1, 1, 0, 194, 1, 1);
        run.due(NONE, "octet", 0, -1);
        run.due(NONE, "octet", 0, 9);
        run.due(NONE, "octet", 0, 10);
        for (int k : Run.FAR) {
            run.due(NONE, "octet", 0, k);
        }
        run.due(15, "octets", 1);
        run.due(0, "octet", 1, 14);
        run.due(NONE, "octet", 1, 15);
    }

    /** What the longer message had must not be seen behind the shorter one. */
    private void octetsOfANumberUsedAgain() {
        Run run = start("11, 12: a number that is used again");
        run.type(0, "abcdefgh");
        run.ask("send", 0, 1);
        run.due(1 + 3 + 1 + 8 + 9 + 8, "octets", 0);
        run.due(YES, "discard", 0);
        run.due(NONE, "octets", 0);
        run.ask("insert", 1, 0, 32);
        run.due(0, "send", 1, 2);
        run.dueOctets(0, 1, 1, 0, 1, 1, 0, 64, 1);
        run.due(NONE, "octet", 0, 9);
        run.due(NONE, "octet", 0, 29);
    }

    private void octetsStayAsTheyWere() {
        Run run = start("11, 12: a message that is delivered, and events made behind it");
        run.ask("insert", 0, 0, 40);
        run.ask("send", 0, 1);
        run.due(1, "deliver", 0);
        run.due(1, "insert", 0, 0, 41);
        run.due(0, "insert", 1, 0, 42);
        run.due(1, "send", 0, 2);
        run.dueOctets(0, 1, 0, 0, 1, 1, 0, 80, 1);
        run.dueOctets(1, 2, 0, 0, 2, 2, 0, 0, 80, 2, 1, 0);
        run.due(YES, "discard", 1);
        run.dueOctets(0, 1, 0, 0, 1, 1, 0, 80, 1);
    }

    /** The first character c is the number 2c: 126 is the greatest even one of one octet. */
    private void numberOfOneOctetAndOfTwo() {
        dueFirstCharacter(32, 64);
        dueFirstCharacter(62, 124);
        dueFirstCharacter(63, 126);
        dueFirstCharacter(64, 128, 1);
        dueFirstCharacter(65, 130, 1);
        dueFirstCharacter(125, 250, 1);
        dueFirstCharacter(126, 252, 1);
    }

    private void dueFirstCharacter(int c, int... want) {
        Run run = start("OCTETS: seven bits each, 128 added to all but the last, character " + c);
        run.ask("insert", 0, 0, c);
        run.ask("send", 0, 1);
        run.due(7 + want.length, "octets", 0);
        for (int k = 0; k < want.length; k++) {
            run.due(want[k], "octet", 0, 6 + k);
        }
        run.due(1, "octet", 0, 6 + want.length);
    }

    private void signedDifferences() {
        Run run = start("OCTETS: 2d, or -2d - 1 if d is below 0");
        for (int c : new int[] {32, 95, 32, 96, 32, 97, 32, 126, 32, 32, 33, 32}) {
            run.ask("insert", 1, 0, c);
        }
        run.ask("send", 1, 0);
        run.dueOctets(0, 12, 1, 0, 12, 12,
                0, 0, 0, 0, 0, 0, 0, 0, 0, 0, 0, 0,
                64, 126, 125, 128, 1, 127, 130, 1, 129, 1, 188, 1, 187, 1, 0, 2, 1,
                1, 0, 0, 0, 0, 0, 0, 0, 0, 0, 0, 0);
    }

    private void indexOfTheFirst() {
        Run run = start("OCTETS: the index of e1 as the difference to 0");
        run.ask("insert", 0, 0, 50);
        run.ask("insert", 0, 1, 50);
        run.ask("insert", 0, 2, 50);
        run.pass(0, 1);
        run.ask("insert", 0, 3, 50);
        run.ask("insert", 0, 0, 50);
        run.ask("delete", 0, 4);
        run.ask("send", 0, 1);
        run.dueOctets(0, 3, 0, 3, 3, 2, 1, 6, 5, 8, 100, 0, 2, 6, 0, 0);
    }

    /** The index goes from 0 to 38 and back: 2 * 38, and 2 * 38 - 1. */
    private void greatestIndexDifferences() {
        Run run = start("OCTETS: the greatest differences of indices");
        for (int k = 0; k < 38; k++) {
            run.ask("insert", 0, 0, 32);
        }
        run.pass(0, 1);
        run.ask("insert", 0, 38, 32);
        run.ask("delete", 0, 0);
        run.ask("send", 0, 1);
        run.dueOctets(0, 2, 0, 38, 2, 1, 1, 76, 75, 64, 2, 111, 0);
    }

    private void shortestMessages() {
        Run run = start("OCTETS: one insert, one delete");
        run.ask("insert", 2, 0, 32);
        run.due(0, "send", 2, 1);
        run.dueOctets(0, 1, 2, 0, 1, 1, 0, 64, 1);
        run.ask("delete", 2, 0);
        run.due(1, "send", 2, 1);
        run.dueOctets(1, 1, 2, 1, 1, 0, 1, 0, 2, 2);
    }

    private void firstRunIsForInserts() {
        Run run = start("OCTETS: the first run is 0 if e1 is a delete");
        run.ask("insert", 0, 0, 32);
        run.ask("insert", 0, 1, 32);
        run.pass(0, 1);
        run.ask("delete", 0, 1);
        run.ask("delete", 0, 0);
        run.ask("insert", 0, 0, 33);
        run.ask("send", 0, 1);
        run.dueOctets(0, 3, 0, 2, 3, 0, 2, 1, 2, 1, 0, 66, 2, 3, 0, 0);
    }

    private void runsOfOneKind() {
        Run run = start("OCTETS: runs of one kind, in turn");
        run.ask("insert", 0, 0, 32);
        run.ask("delete", 0, 0);
        run.ask("insert", 0, 0, 32);
        run.ask("insert", 0, 0, 32);
        run.ask("delete", 0, 0);
        run.ask("delete", 0, 0);
        run.ask("insert", 0, 0, 32);
        run.ask("send", 0, 1);
        run.dueOctets(0, 7, 0, 0, 7, 1, 1, 2, 2, 1, 0, 0, 0, 0, 0, 0, 0, 64, 0, 0, 0, 1, 0, 0, 0, 0, 0, 0);
    }

    /** In THE ORDER: 0 0, 0 1, then what follows there of site 1, and then the rest of site 0. */
    private void runsOfOneSite() {
        Run run = start("OCTETS: runs of one site, as long as they can be");
        run.ask("insert", 0, 0, 32);
        run.ask("insert", 0, 1, 32);
        run.pass(0, 1);
        run.ask("insert", 1, 2, 32);
        run.ask("insert", 1, 3, 32);
        run.pass(1, 0);
        run.ask("insert", 0, 4, 32);
        run.ask("send", 0, 2);
        run.dueOctets(0, 5, 0, 0, 2, 1, 0, 2, 0, 2, 1, 5, 0, 2, 2, 2, 2, 64, 0, 0, 0, 0, 1, 0, 0, 0, 0);
    }

    private void noParents() {
        Run run = start("OCTETS: 1 + 0 for an event without parents");
        run.ask("insert", 0, 0, 32);
        run.ask("insert", 1, 0, 32);
        run.ask("insert", 2, 0, 32);
        run.pass(0, 2);
        run.pass(1, 2);
        run.ask("send", 2, 0);
        run.dueOctets(0, 2, 1, 0, 1, 2, 0, 1, 2, 0, 0, 64, 0, 1, 1);
    }

    private void onlyParentJustBefore() {
        Run run = start("OCTETS: 0 if the event carried just before is its only parent");
        run.ask("insert", 2, 0, 32);
        run.ask("insert", 2, 0, 32);
        run.ask("send", 2, 0);
        run.dueOctets(0, 2, 2, 0, 2, 2, 0, 0, 64, 0, 1, 0);
    }

    private void onlyParentNotJustBefore() {
        Run run = start("OCTETS: the only parent is carried, but not just before");
        run.ask("insert", 0, 0, 32);
        run.pass(0, 1);
        run.ask("insert", 0, 0, 32);
        run.ask("insert", 1, 0, 32);
        run.pass(1, 0);
        run.ask("send", 0, 2);
        run.dueOctets(0, 3, 0, 0, 2, 1, 0, 1, 3, 0, 0, 0, 64, 0, 0, 1, 0, 2, 0);
    }

    private void twoParentsOneJustBefore() {
        Run run = start("OCTETS: two parents, one of them just before");
        run.ask("insert", 1, 0, 32);
        run.ask("insert", 0, 0, 32);
        run.pass(1, 0);
        run.ask("insert", 0, 0, 32);
        run.ask("send", 0, 2);
        run.dueOctets(0, 3, 0, 0, 1, 1, 0, 1, 0, 1, 1, 3, 0, 0, 0, 64, 0, 0, 1, 1, 3, 0, 1);
    }

    private void parentNotCarried() {
        Run run = start("OCTETS: a parent that is not carried");
        run.ask("insert", 1, 0, 32);
        run.ask("insert", 1, 0, 32);
        run.pass(1, 0);
        run.ask("insert", 0, 0, 32);
        run.ask("send", 0, 1);
        run.dueOctets(0, 1, 0, 0, 1, 1, 0, 64, 2, 4);
    }

    private void threeParents() {
        Run run = start("OCTETS: parents in the order of identifiers");
        run.ask("insert", 2, 0, 32);
        run.ask("insert", 1, 0, 32);
        run.ask("insert", 0, 0, 32);
        run.ask("insert", 0, 0, 32);
        run.pass(2, 0);
        run.pass(1, 0);
        run.pass(0, 1);
        run.ask("insert", 0, 0, 32);
        run.ask("send", 0, 1);
        run.dueOctets(0, 1, 0, 2, 1, 1, 0, 64, 4, 3, 1, 2);
    }

    private void parentWithTheGreatestNumber() {
        Run run = start("OCTETS: site + 3 * number of the 39th event");
        for (int k = 0; k < 39; k++) {
            run.ask("insert", 2, 0, 32);
        }
        run.pass(2, 0);
        run.ask("insert", 2, 0, 32);
        run.ask("send", 2, 0);
        run.dueOctets(0, 1, 2, 39, 1, 1, 0, 64, 2, 116);
    }

    private void fortyEvents() {
        Run run = start("OCTETS: n is 40");
        int[] want = new int[1 + 3 + 1 + 40 + 40 + 40];
        want[0] = 40;
        want[1] = 1;
        want[3] = 40;
        want[4] = 40;
        want[45] = 64;
        want[85] = 1;
        for (int k = 0; k < 40; k++) {
            run.ask("insert", 1, k, 32);
            want[5 + k] = k == 0 ? 0 : 2;
        }
        run.ask("send", 1, 0);
        run.dueOctets(0, want);
        run.due(NONE, "octet", 0, 126);
    }

    /**
     * Every event is made by another site than the one before, has three parents (but for the first
     * three) and a character far from the last: about as many octets as a message can have.
     */
    private void longMessage() {
        List<Call> script = new ArrayList<>();
        for (int k = 0; k < 13; k++) {
            for (int r = 0; r < 3; r++) {
                script.add(new Call("insert", r, 0, (k + r) % 2 == 0 ? 126 : 32));
            }
            for (int r = 0; r < 3; r++) {
                addPass(script, r, (r + 1) % 3);
            }
            for (int r = 0; r < 3; r++) {
                addPass(script, r, (r + 2) % 3);
            }
        }
        script.add(new Call("insert", 1, 0, 97));
        script.add(new Call("hear", 0, 1));
        script.add(new Call("send", 0, 1));
        ReferenceText y = new ReferenceText();
        for (Call call : script) {
            call.ask(y);
        }
        checks.due("octets of a long message", y.octets(0), 1 + 39 * 3 + 1 + 39 + 39 * 2 + 3 + 36 * 4);
        new View(y).check(checks, "OCTETS: a long message", script);
    }

    private static void addPass(List<Call> script, int from, int to) {
        script.add(new Call("send", from, to));
        script.add(new Call("deliver", 0));
        script.add(new Call("discard", 0));
    }
}
