/** Each promise by itself, with answers worked out by hand from the document. */
public final class PromiseTest {
    private static final int NONE = -1000;
    private static final int MISSING = -1;
    private static final int NOTHING = 1000;
    private static final int[] NO_SITES = {-1, 3, 1000, -1000, Integer.MIN_VALUE, Integer.MAX_VALUE};
    private static final int[] NO_MESSAGES = {-1, 6, 1000, Integer.MIN_VALUE, Integer.MAX_VALUE};

    private final Checks checks = new Checks("PromiseTest");
    private String part = "";

    public static void main(String[] args) {
        PromiseTest test = new PromiseTest();
        test.newObject();
        test.insert();
        test.placesOfConcurrentInserts();
        test.placesBesideHiddenCharacters();
        test.delete();
        test.lengthAndAt();
        test.fortyEvents();
        test.send();
        test.sixMessages();
        test.deliver();
        test.deliverAddsAncestorsToBelieved();
        test.discard();
        test.hear();
        test.believed();
        test.octetsOfOneSite();
        test.octetsOfDeletesAndParents();
        test.octetsOfThreeParents();
        test.octetsInTheOrder();
        test.events();
        test.heads();
        test.ancestor();
        test.critical();
        test.replayedAndMoves();
        test.movesOfReplayedBranches();
        test.operation();
        test.constants();
        test.checks.end();
    }

    private void start(String name) {
        part = name + ": ";
    }

    private void due(String call, long got, long want) {
        checks.due(part + call, got, want);
    }

    private void due(String call, boolean got, boolean want) {
        checks.due(part + call, got, want);
    }

    private void dueText(EventGraphText x, int r, String want) {
        StringBuilder text = new StringBuilder();
        for (int k = 0; k < x.length(r); k++) {
            text.append((char) x.at(r, k));
        }
        checks.due(part + "the text of " + r, text.toString(), want);
    }

    private void dueOctets(EventGraphText x, int m, int... want) {
        due("octets(" + m + ")", x.octets(m), want.length);
        for (int k = 0; k < want.length; k++) {
            due("octet(" + m + ", " + k + ")", x.octet(m, k), want[k]);
        }
        due("octet behind the last", x.octet(m, want.length), NONE);
        due("octet before the first", x.octet(m, -1), NONE);
    }

    /** Types a text at the end of a site's text. */
    private static void type(EventGraphText x, int r, String text) {
        for (char c : text.toCharArray()) {
            x.insert(r, x.length(r), c);
        }
    }

    /** Sends, delivers and discards: how many events were new. */
    private static int pass(EventGraphText x, int from, int to) {
        int m = x.send(from, to);
        int fresh = x.deliver(m);
        x.discard(m);
        return fresh;
    }

    private void newObject() {
        start("1");
        type(new EventGraphText(), 0, "another object");
        EventGraphText x = new EventGraphText();
        for (int r = 0; r < 3; r++) {
            due("length", x.length(r), 0);
            due("at", x.at(r, 0), NONE);
            due("events", x.events(r), 0);
            due("heads", x.heads(r), 0);
            due("head", x.head(r, 0), NONE);
            due("critical", x.critical(r), 0);
            due("replayed", x.replayed(r), 0);
            due("moves", x.moves(r), 0);
            due("operation", x.operation(r, 0), NONE);
            due("ancestor", x.ancestor(r, 0, r, 0), NONE);
            due("believed", x.believed(r, (r + 1) % 3), 0);
            due("believed", x.believed(r, (r + 2) % 3), 0);
        }
        for (int m = 0; m < 6; m++) {
            due("octets", x.octets(m), NONE);
            due("deliver", x.deliver(m), NONE);
            due("discard", x.discard(m), false);
        }
    }

    private void insert() {
        start("2");
        EventGraphText x = new EventGraphText();
        for (int r : NO_SITES) {
            due("insert at no site", x.insert(r, 0, 97), NONE);
        }
        due("insert(1, -1, 97)", x.insert(1, -1, 97), NONE);
        due("insert(1, 1, 97)", x.insert(1, 1, 97), NONE);
        due("insert(1, 0, 31)", x.insert(1, 0, 31), NONE);
        due("insert(1, 0, 127)", x.insert(1, 0, 127), NONE);
        due("insert(1, 0, -97)", x.insert(1, 0, -97), NONE);
        due("events(1)", x.events(1), 0);
        due("insert(1, 0, 32)", x.insert(1, 0, 32), 0);
        due("insert(1, 0, 126)", x.insert(1, 0, 126), 1);
        due("insert(1, 1, 109)", x.insert(1, 1, 109), 2);
        due("insert(1, 4, 97)", x.insert(1, 4, 97), NONE);
        due("insert(1, 3, 97)", x.insert(1, 3, 97), 3);
        dueText(x, 1, "~m a");
        due("insert(2, 1, 97)", x.insert(2, 1, 97), NONE);
        due("insert(2, 0, 98)", x.insert(2, 0, 98), 0);
        dueText(x, 2, "b");
        dueText(x, 0, "");
        x.delete(1, 0);
        due("insert(1, 0, 99)", x.insert(1, 0, 99), 5);
        dueText(x, 1, "cm a");
    }

    private void placesOfConcurrentInserts() {
        start("2, places");
        EventGraphText x = new EventGraphText();
        type(x, 2, "xyz");
        type(x, 0, "abc");
        type(x, 1, "mn");
        pass(x, 2, 0);
        pass(x, 1, 0);
        dueText(x, 0, "abcmnxyz");
        pass(x, 1, 2);
        dueText(x, 2, "mnxyz");
        pass(x, 0, 2);
        dueText(x, 2, "abcmnxyz");

        x = new EventGraphText();
        type(x, 0, "ab");
        pass(x, 0, 1);
        pass(x, 0, 2);
        x.insert(2, 1, '2');
        x.insert(1, 1, '1');
        x.insert(0, 1, '0');
        pass(x, 2, 0);
        dueText(x, 0, "a02b");
        pass(x, 1, 0);
        dueText(x, 0, "a012b");
        x.insert(0, 2, '-');
        dueText(x, 0, "a0-12b");
        pass(x, 0, 2);
        dueText(x, 2, "a0-12b");

        x = new EventGraphText();
        type(x, 0, "ab");
        pass(x, 0, 1);
        x.insert(0, 1, 'x');
        x.insert(1, 1, 'y');
        pass(x, 1, 0);
        dueText(x, 0, "axyb");
    }

    private void placesBesideHiddenCharacters() {
        start("2, hidden characters");
        EventGraphText x = new EventGraphText();
        type(x, 0, "ab");
        pass(x, 0, 1);
        x.delete(1, 0);
        x.insert(1, 0, 'c');
        x.insert(0, 1, 'x');
        pass(x, 1, 0);
        dueText(x, 0, "cxb");
        pass(x, 0, 1);
        dueText(x, 1, "cxb");

        x = new EventGraphText();
        type(x, 0, "ab");
        pass(x, 0, 1);
        x.delete(0, 1);
        x.insert(0, 1, 'd');
        x.insert(1, 2, 'e');
        pass(x, 1, 0);
        dueText(x, 0, "ade");
        pass(x, 0, 1);
        dueText(x, 1, "ade");
    }

    private void delete() {
        start("3");
        EventGraphText x = new EventGraphText();
        due("delete in an empty text", x.delete(0, 0), NONE);
        type(x, 0, "abcd");
        for (int r : NO_SITES) {
            due("delete at no site", x.delete(r, 0), NONE);
        }
        due("delete(0, -1)", x.delete(0, -1), NONE);
        due("delete(0, 4)", x.delete(0, 4), NONE);
        due("delete(1, 0)", x.delete(1, 0), NONE);
        due("events(0)", x.events(0), 4);
        due("delete(0, 3)", x.delete(0, 3), 4);
        due("delete(0, 0)", x.delete(0, 0), 5);
        dueText(x, 0, "bc");
        due("delete(0, 2)", x.delete(0, 2), NONE);
        pass(x, 0, 1);
        due("delete(1, 1)", x.delete(1, 1), 0);
        dueText(x, 1, "b");
        dueText(x, 0, "bc");
        due("delete(0, 1)", x.delete(0, 1), 6);
        pass(x, 1, 0);
        dueText(x, 0, "b");
        due("delete(0, 0)", x.delete(0, 0), 7);
        due("delete(0, 0)", x.delete(0, 0), NONE);
        dueText(x, 0, "");
    }

    private void lengthAndAt() {
        start("4, 5");
        EventGraphText x = new EventGraphText();
        type(x, 1, "text");
        for (int r : NO_SITES) {
            due("length of no site", x.length(r), NONE);
            due("at of no site", x.at(r, 0), NONE);
        }
        due("length(1)", x.length(1), 4);
        due("length(0)", x.length(0), 0);
        due("at(1, -1)", x.at(1, -1), NONE);
        due("at(1, 0)", x.at(1, 0), 't');
        due("at(1, 1)", x.at(1, 1), 'e');
        due("at(1, 3)", x.at(1, 3), 't');
        due("at(1, 4)", x.at(1, 4), NONE);
        due("at(1, MIN)", x.at(1, Integer.MIN_VALUE), NONE);
        due("at(1, MAX)", x.at(1, Integer.MAX_VALUE), NONE);
        x.delete(1, 1);
        due("length(1)", x.length(1), 3);
        due("at(1, 1)", x.at(1, 1), 'x');
        due("at(1, 3)", x.at(1, 3), NONE);
    }

    private void fortyEvents() {
        start("2, 3, forty events");
        EventGraphText x = new EventGraphText();
        for (int k = 0; k < 13; k++) {
            due("insert(0, ..)", x.insert(0, k, 97), k);
            due("insert(1, ..)", x.insert(1, k, 98), k);
            due("insert(2, ..)", x.insert(2, k, 99), k);
        }
        due("delete(2, 12)", x.delete(2, 12), 13);
        due("insert(0, 0, 97)", x.insert(0, 0, 97), NONE);
        due("delete(1, 0)", x.delete(1, 0), NONE);
        due("events(0)", x.events(0), 13);
        due("events(2)", x.events(2), 14);
        pass(x, 0, 2);
        pass(x, 1, 2);
        due("events(2)", x.events(2), 40);
        dueText(x, 2, "a".repeat(13) + "b".repeat(13) + "c".repeat(12));
        due("octets of all", x.octets(x.send(2, 0)), 1 + 3 * 2 + 2 + 27 + 27 + 27);
    }

    private void send() {
        start("6");
        EventGraphText x = new EventGraphText();
        due("send of nothing", x.send(0, 1), NONE);
        type(x, 0, "ab");
        for (int r : NO_SITES) {
            due("send from no site", x.send(r, 0), NONE);
            due("send to no site", x.send(0, r), NONE);
        }
        due("send(0, 0)", x.send(0, 0), NONE);
        due("believed(0, 1)", x.believed(0, 1), 0);
        due("send(0, 1)", x.send(0, 1), 0);
        due("believed(0, 1)", x.believed(0, 1), 2);
        due("believed(1, 0)", x.believed(1, 0), 0);
        due("send(0, 1) again", x.send(0, 1), NONE);
        due("send(0, 2)", x.send(0, 2), 1);
        type(x, 0, "c");
        due("a message keeps what it carried", x.deliver(0), 2);
        dueText(x, 1, "ab");
        due("send(0, 1) of one more", x.send(0, 1), 2);
        due("octet(2, 0)", x.octet(2, 0), 1);
        x.discard(0);
        due("send(0, 2) with the least number", x.send(0, 2), 0);
    }

    private void sixMessages() {
        start("6, six messages");
        EventGraphText x = new EventGraphText();
        for (int m = 0; m < 6; m++) {
            type(x, 0, "a");
            due("send(0, 1)", x.send(0, 1), m);
        }
        type(x, 0, "b");
        due("send(0, 1) with no number free", x.send(0, 1), NONE);
        due("send(0, 2) with no number free", x.send(0, 2), NONE);
        due("believed(0, 1)", x.believed(0, 1), 6);
        due("believed(0, 2)", x.believed(0, 2), 0);
        x.discard(4);
        x.discard(2);
        due("send(0, 1) with two free", x.send(0, 1), 2);
        due("send(0, 2) with one free", x.send(0, 2), 4);
        due("deliver(4)", x.deliver(4), 7);
        due("deliver(2)", x.deliver(2), MISSING);
    }

    private void deliver() {
        start("7");
        EventGraphText x = new EventGraphText();
        for (int m : NO_MESSAGES) {
            due("deliver no message", x.deliver(m), NONE);
        }
        type(x, 0, "ab");
        x.send(0, 1);
        type(x, 0, "c");
        x.send(0, 1);
        due("deliver(2)", x.deliver(2), NONE);
        due("deliver(1)", x.deliver(1), MISSING);
        due("events(1)", x.events(1), 0);
        due("believed(1, 0)", x.believed(1, 0), 0);
        dueText(x, 1, "");
        due("deliver(0)", x.deliver(0), 2);
        due("believed(1, 0)", x.believed(1, 0), 2);
        due("deliver(0) again", x.deliver(0), 0);
        due("deliver(1)", x.deliver(1), 1);
        due("deliver(1) again", x.deliver(1), 0);
        due("events(1)", x.events(1), 3);
        due("believed(1, 0)", x.believed(1, 0), 3);
        due("believed(0, 1)", x.believed(0, 1), 3);
        dueText(x, 1, "abc");
        pass(x, 1, 2);
        due("send(0, 2)", x.send(0, 2), 2);
        due("deliver(2) of what came by another way", x.deliver(2), 0);
        due("believed(2, 0)", x.believed(2, 0), 3);
    }

    private void deliverAddsAncestorsToBelieved() {
        start("7, BELIEVED");
        EventGraphText x = new EventGraphText();
        type(x, 0, "a");
        pass(x, 0, 1);
        type(x, 0, "b");
        due("send(0, 1)", x.send(0, 1), 0);
        due("hear(1, 0)", x.hear(1, 0), 0);
        due("deliver(0)", x.deliver(0), 1);
        due("believed(1, 0)", x.believed(1, 0), 2);
        type(x, 0, "c");
        due("send(0, 1)", x.send(0, 1), 1);
        due("deliver(1)", x.deliver(1), 1);
        due("deliver(0) late", x.deliver(0), 0);
        due("believed(1, 0)", x.believed(1, 0), 3);
    }

    private void discard() {
        start("8");
        EventGraphText x = new EventGraphText();
        for (int m : NO_MESSAGES) {
            due("discard no message", x.discard(m), false);
        }
        type(x, 0, "a");
        due("send(0, 1)", x.send(0, 1), 0);
        due("discard(1)", x.discard(1), false);
        due("discard(0)", x.discard(0), true);
        due("discard(0) again", x.discard(0), false);
        due("deliver(0)", x.deliver(0), NONE);
        due("octets(0)", x.octets(0), NONE);
        due("octet(0, 0)", x.octet(0, 0), NONE);
        due("believed(0, 1)", x.believed(0, 1), 1);
        due("send(0, 2)", x.send(0, 2), 0);
        due("deliver(0)", x.deliver(0), 1);
        due("discard(0) of a delivered one", x.discard(0), true);
    }

    private void hear() {
        start("9");
        EventGraphText x = new EventGraphText();
        type(x, 0, "ab");
        for (int r : NO_SITES) {
            due("hear from no site", x.hear(0, r), NONE);
            due("hear at no site", x.hear(r, 0), NONE);
        }
        due("hear(0, 0)", x.hear(0, 0), NONE);
        x.send(0, 1);
        due("hear(0, 1) of an empty graph", x.hear(0, 1), 0);
        due("believed(0, 1)", x.believed(0, 1), 0);
        due("send(0, 1) once more", x.send(0, 1), 1);
        x.deliver(1);
        due("hear(0, 1)", x.hear(0, 1), 2);
        type(x, 1, "c");
        due("hear(0, 1) of an unknown head", x.hear(0, 1), 0);
        type(x, 0, "d");
        x.deliver(x.send(0, 1));
        due("heads(1)", x.heads(1), 2);
        due("hear(0, 1) of two heads, one unknown", x.hear(0, 1), 3);
        due("believed(0, 1)", x.believed(0, 1), 3);
        due("hear(1, 0)", x.hear(1, 0), 3);
        due("believed(1, 0)", x.believed(1, 0), 3);
        due("events(0) after hearing", x.events(0), 3);
    }

    private void believed() {
        start("10");
        EventGraphText x = new EventGraphText();
        for (int r : NO_SITES) {
            due("believed of no site", x.believed(0, r), NONE);
            due("believed at no site", x.believed(r, 0), NONE);
        }
        due("believed(1, 1)", x.believed(1, 1), NONE);
        type(x, 2, "abc");
        due("believed(2, 0)", x.believed(2, 0), 0);
        due("believed(0, 2)", x.believed(0, 2), 0);
        x.send(2, 0);
        due("believed(2, 0)", x.believed(2, 0), 3);
        due("believed(2, 1)", x.believed(2, 1), 0);
        due("believed(0, 2)", x.believed(0, 2), 0);
        x.deliver(0);
        due("believed(0, 2)", x.believed(0, 2), 3);
        due("believed(0, 1)", x.believed(0, 1), 0);
    }

    private void octetsOfOneSite() {
        start("11, 12");
        EventGraphText x = new EventGraphText();
        for (int m : NO_MESSAGES) {
            due("octets of no message", x.octets(m), NONE);
            due("octet of no message", x.octet(m, 0), NONE);
        }
        due("octets(0)", x.octets(0), NONE);
        due("octet(0, 0)", x.octet(0, 0), NONE);
        x.insert(0, 0, 126);
        x.insert(0, 1, 32);
        x.delete(0, 0);
        x.send(0, 1);
        dueOctets(x, 0, 3, 0, 0, 3, 2, 1, 0, 2, 1, 252, 1, 187, 1, 1, 0, 0);
        due("octet(0, MAX)", x.octet(0, Integer.MAX_VALUE), NONE);
        due("octet(0, MIN)", x.octet(0, Integer.MIN_VALUE), NONE);
        type(x, 0, "more");
        x.deliver(0);
        due("octets(0) later", x.octets(0), 16);
    }

    private void octetsOfDeletesAndParents() {
        start("11, 12, deletes and parents");
        EventGraphText x = new EventGraphText();
        x.insert(0, 0, 126);
        x.insert(0, 1, 32);
        x.delete(0, 0);
        pass(x, 0, 1);
        x.delete(1, 0);
        x.insert(0, 1, 65);
        x.send(1, 0);
        dueOctets(x, 0, 1, 1, 0, 1, 0, 1, 0, 2, 6);
        x.deliver(0);
        x.insert(0, 0, 66);
        dueText(x, 0, "BA");
        x.send(0, 1);
        dueOctets(x, 1, 2, 0, 3, 2, 2, 2, 1, 130, 1, 2, 2, 6, 3, 9, 1);
        x.discard(0);
        type(x, 0, "C");
        x.send(0, 1);
        dueOctets(x, 0, 1, 0, 5, 1, 1, 4, 134, 1, 2, 12);
    }

    private void octetsOfThreeParents() {
        start("11, 12, three parents");
        EventGraphText x = new EventGraphText();
        type(x, 1, "@");
        type(x, 0, "?");
        type(x, 2, "?");
        pass(x, 0, 1);
        pass(x, 2, 1);
        x.insert(1, 3, 63);
        x.send(1, 0);
        dueOctets(x, 0, 3, 1, 0, 1, 2, 0, 1, 1, 1, 1, 3, 0, 0, 6, 128, 1, 1, 0, 1, 1, 4, 0, 1, 2);
    }

    private void octetsInTheOrder() {
        start("11, 12, THE ORDER");
        EventGraphText x = new EventGraphText();
        x.insert(0, 0, 97);
        pass(x, 0, 2);
        x.insert(2, 1, 99);
        x.insert(1, 0, 98);
        pass(x, 1, 2);
        x.insert(0, 1, 100);
        due("hear(2, 0)", x.hear(2, 0), 0);
        x.send(2, 0);
        dueOctets(x, 0, 3, 0, 0, 1, 2, 0, 1, 1, 0, 1, 3, 0, 2, 1, 194, 1, 4, 1, 1, 0, 1);
    }

    private void events() {
        start("13");
        EventGraphText x = new EventGraphText();
        for (int r : NO_SITES) {
            due("events of no site", x.events(r), NONE);
        }
        type(x, 0, "ab");
        x.delete(0, 0);
        x.delete(0, 5);
        due("events(0)", x.events(0), 3);
        due("events(1)", x.events(1), 0);
        type(x, 1, "c");
        pass(x, 0, 1);
        due("events(1)", x.events(1), 4);
        due("events(0)", x.events(0), 3);
    }

    private void heads() {
        start("14, 15");
        EventGraphText x = new EventGraphText();
        for (int r : NO_SITES) {
            due("heads of no site", x.heads(r), NONE);
            due("head of no site", x.head(r, 0), NONE);
        }
        type(x, 0, "ab");
        due("heads(0)", x.heads(0), 1);
        due("head(0, 0)", x.head(0, 0), 3);
        due("head(0, 1)", x.head(0, 1), NONE);
        due("head(0, -1)", x.head(0, -1), NONE);
        due("head(0, MAX)", x.head(0, Integer.MAX_VALUE), NONE);
        due("head(0, MIN)", x.head(0, Integer.MIN_VALUE), NONE);
        type(x, 2, "c");
        type(x, 1, "d");
        pass(x, 0, 1);
        pass(x, 2, 1);
        due("heads(1)", x.heads(1), 3);
        due("head(1, 0)", x.head(1, 0), 3);
        due("head(1, 1)", x.head(1, 1), 1);
        due("head(1, 2)", x.head(1, 2), 2);
        due("head(1, 3)", x.head(1, 3), NONE);
        x.delete(1, 0);
        due("heads(1)", x.heads(1), 1);
        due("head(1, 0)", x.head(1, 0), 4);
        due("head(1, 1)", x.head(1, 1), NONE);
        due("heads(2)", x.heads(2), 1);
    }

    private void ancestor() {
        start("16");
        EventGraphText x = new EventGraphText();
        due("ancestor before any event", x.ancestor(0, 0, 0, 0), NONE);
        type(x, 0, "ab");
        pass(x, 0, 1);
        x.delete(1, 0);
        type(x, 0, "c");
        pass(x, 1, 2);
        type(x, 2, "d");
        due("ancestor(0, 0, 0, 1)", x.ancestor(0, 0, 0, 1), 1);
        due("ancestor(0, 1, 0, 0)", x.ancestor(0, 1, 0, 0), 0);
        due("ancestor(0, 0, 0, 0)", x.ancestor(0, 0, 0, 0), 0);
        due("ancestor(0, 0, 2, 0)", x.ancestor(0, 0, 2, 0), 1);
        due("ancestor(1, 0, 2, 0)", x.ancestor(1, 0, 2, 0), 1);
        due("ancestor(2, 0, 1, 0)", x.ancestor(2, 0, 1, 0), 0);
        due("ancestor(0, 2, 1, 0)", x.ancestor(0, 2, 1, 0), 0);
        due("ancestor(1, 0, 0, 2)", x.ancestor(1, 0, 0, 2), 0);
        due("ancestor(0, 3, 0, 2)", x.ancestor(0, 3, 0, 2), NONE);
        due("ancestor(0, 0, 1, 1)", x.ancestor(0, 0, 1, 1), NONE);
        due("ancestor(0, -1, 0, 0)", x.ancestor(0, -1, 0, 0), NONE);
        due("ancestor(0, 0, 0, -1)", x.ancestor(0, 0, 0, -1), NONE);
        due("ancestor(0, MAX, 0, 0)", x.ancestor(0, Integer.MAX_VALUE, 0, 0), NONE);
        for (int r : NO_SITES) {
            due("ancestor at no site", x.ancestor(r, 0, 0, 0), NONE);
            due("ancestor of no site", x.ancestor(0, 0, r, 0), NONE);
        }
    }

    private void critical() {
        start("17");
        EventGraphText x = new EventGraphText();
        for (int r : NO_SITES) {
            due("critical of no site", x.critical(r), NONE);
        }
        type(x, 0, "ab");
        due("critical(0) of a chain", x.critical(0), 2);
        pass(x, 0, 1);
        type(x, 0, "c");
        type(x, 1, "d");
        pass(x, 1, 0);
        due("critical(0) before a fork", x.critical(0), 2);
        due("critical(1)", x.critical(1), 3);
        x.delete(0, 0);
        due("critical(0) behind a join", x.critical(0), 5);
        type(x, 2, "e");
        pass(x, 2, 0);
        due("critical(0) of two roots", x.critical(0), 0);
        due("critical(2)", x.critical(2), 1);
    }

    private void replayedAndMoves() {
        start("18, 19");
        EventGraphText x = new EventGraphText();
        for (int r : NO_SITES) {
            due("replayed of no site", x.replayed(r), NONE);
            due("moves of no site", x.moves(r), NONE);
        }
        type(x, 0, "ab");
        type(x, 1, "xy");
        due("replayed(0) without a merge", x.replayed(0), 0);
        due("moves(0) without a merge", x.moves(0), 0);
        pass(x, 1, 0);
        dueMerge(x, 0, 2, 2);
        type(x, 0, "c");
        pass(x, 0, 1);
        dueMerge(x, 1, 2, 4);
        type(x, 0, "de");
        type(x, 1, "z");
        x.send(1, 0);
        x.deliver(0);
        dueMerge(x, 0, 2, 2);
        due("deliver(0) without a merge", x.deliver(0), 0);
        dueMerge(x, 0, 2, 2);
        dueMerge(x, 1, 2, 4);
        pass(x, 0, 2);
        dueMerge(x, 2, 0, 2 + 2 + 2);
        type(x, 0, "f");
        pass(x, 0, 2);
        dueMerge(x, 2, 3, 2 + 2);
    }

    private void dueMerge(EventGraphText x, int r, int replayed, int moves) {
        due("replayed(" + r + ")", x.replayed(r), replayed);
        due("moves(" + r + ")", x.moves(r), moves);
    }

    private void movesOfReplayedBranches() {
        start("18, 19, branches");
        EventGraphText x = new EventGraphText();
        type(x, 0, "a");
        type(x, 1, "b");
        pass(x, 1, 2);
        pass(x, 0, 2);
        dueMerge(x, 2, 1, 1);
        type(x, 2, "c");
        type(x, 0, "d");
        pass(x, 0, 2);
        dueMerge(x, 2, 3, 4);
    }

    private void operation() {
        start("20");
        EventGraphText x = new EventGraphText();
        type(x, 0, "abc");
        due("operation(0, 0) without a merge", x.operation(0, 0), NONE);
        pass(x, 0, 1);
        due("operation(1, 0)", x.operation(1, 0), 0);
        due("operation(1, 1)", x.operation(1, 1), 1);
        due("operation(1, 2)", x.operation(1, 2), 2);
        due("operation(1, 3)", x.operation(1, 3), NONE);
        due("operation(1, -1)", x.operation(1, -1), NONE);
        due("operation(1, MAX)", x.operation(1, Integer.MAX_VALUE), NONE);
        due("operation(1, MIN)", x.operation(1, Integer.MIN_VALUE), NONE);
        for (int r : NO_SITES) {
            due("operation of no site", x.operation(r, 0), NONE);
        }
        x.delete(1, 2);
        x.insert(1, 1, 'm');
        x.delete(1, 0);
        x.insert(0, 0, 'z');
        x.delete(0, 1);
        due("deliver", x.deliver(x.send(1, 0)), 3);
        due("operation(0, 0), c behind z b", x.operation(0, 0), -1 - 2);
        due("operation(0, 1), m between z and b", x.operation(0, 1), 1);
        due("operation(0, 2), a is hidden", x.operation(0, 2), NOTHING);
        due("operation(0, 3)", x.operation(0, 3), NONE);
        dueText(x, 0, "zmb");
        due("deliver(0) without a merge", x.deliver(0), 0);
        due("operation(0, 2) as before", x.operation(0, 2), NOTHING);
        x.delete(1, 0);
        pass(x, 1, 0);
        due("operation(0, 0) of the latest", x.operation(0, 0), -1 - 1);
        due("operation(0, 1) of the latest", x.operation(0, 1), NONE);
        dueText(x, 0, "zb");
    }

    private void constants() {
        start("constants");
        due("NONE", EventGraphText.NONE, -1000);
        due("MISSING", EventGraphText.MISSING, -1);
        due("NOTHING", EventGraphText.NOTHING, 1000);
    }
}
