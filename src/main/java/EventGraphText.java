/**
 * A text that three sites write together. Every event is kept once for all sites, in a slot of the
 * history; what a site has, believes or carries is a set of slots, held as the bits of a long.
 */
public final class EventGraphText {
    public static final int NONE = -1000;
    public static final int MISSING = -1;
    public static final int NOTHING = 1000;

    private static final int SITES = 3;
    private static final int MESSAGES = 6;
    private static final int MOST_EVENTS = 40;
    private static final int LEAST_CHARACTER = 32;
    private static final int MOST_CHARACTER = 126;
    private static final int NO_EVENT = -1;
    private static final int NO_CHARACTER = -1;
    private static final int START = -1;

    private final History history;
    private final CharacterList characters;
    private final Line line;
    private final Site[] sites;
    private final Message[] messages;

    public EventGraphText() {
        history = new History();
        characters = new CharacterList();
        line = new Line();
        sites = new Site[SITES];
        for (int r = 0; r < SITES; r++) {
            sites[r] = new Site();
        }
        messages = new Message[MESSAGES];
        for (int m = 0; m < MESSAGES; m++) {
            messages[m] = new Message();
        }
    }

    public int insert(int r, int index, int c) {
        if (!isSite(r) || c < LEAST_CHARACTER || c > MOST_CHARACTER || history.isFull()) {
            return NONE;
        }
        long graph = sites[r].graph;
        long shown = characters.shownIn(graph);
        if (index < 0 || index > Long.bitCount(shown)) {
            return NONE;
        }
        int left = index == 0 ? START : characters.shownAt(shown, index - 1);
        int slot = history.record(r, index, c, graph);
        characters.putBehind(history, slot, left, graph);
        sites[r].graph = graph | bit(slot);
        return history.numberOf(slot);
    }

    public int delete(int r, int index) {
        if (!isSite(r) || history.isFull()) {
            return NONE;
        }
        long graph = sites[r].graph;
        int character = characters.shownAt(characters.shownIn(graph), index);
        if (character == NO_EVENT) {
            return NONE;
        }
        int slot = history.record(r, index, NO_CHARACTER, graph);
        characters.hide(slot, character);
        sites[r].graph = graph | bit(slot);
        return history.numberOf(slot);
    }

    public int length(int r) {
        return isSite(r) ? Long.bitCount(characters.shownIn(sites[r].graph)) : NONE;
    }

    public int at(int r, int k) {
        if (!isSite(r)) {
            return NONE;
        }
        int slot = characters.shownAt(characters.shownIn(sites[r].graph), k);
        return slot == NO_EVENT ? NONE : history.characterOf(slot);
    }

    public int send(int from, int to) {
        if (!areTwoSites(from, to)) {
            return NONE;
        }
        Site sender = sites[from];
        long carried = sender.graph & ~sender.beliefs[to];
        int m = freeNumber();
        if (carried == 0 || m == MESSAGES) {
            return NONE;
        }
        line.arrange(history, carried);
        messages[m].start(from, to, carried);
        messages[m].write(history, line);
        sender.beliefs[to] = sender.graph;
        return m;
    }

    public int deliver(int m) {
        if (!isUnderWay(m)) {
            return NONE;
        }
        Message message = messages[m];
        long carried = message.carried;
        Site receiver = sites[message.to];
        long before = receiver.graph;
        if ((history.parentsOfAll(carried) & ~(carried | before)) != 0) {
            return MISSING;
        }
        receiver.beliefs[message.from] |= history.withAncestors(carried);
        long fresh = carried & ~before;
        if (fresh != 0) {
            receiver.merge.perform(history, characters, line, before, fresh);
            receiver.graph = before | fresh;
        }
        return Long.bitCount(fresh);
    }

    public boolean discard(int m) {
        if (!isUnderWay(m)) {
            return false;
        }
        messages[m].underWay = false;
        return true;
    }

    public int hear(int from, int to) {
        if (!areTwoSites(from, to)) {
            return NONE;
        }
        Site hearer = sites[from];
        long known = history.headsOf(sites[to].graph) & hearer.graph;
        hearer.beliefs[to] = history.withAncestors(known);
        return Long.bitCount(hearer.beliefs[to]);
    }

    public int believed(int from, int to) {
        return areTwoSites(from, to) ? Long.bitCount(sites[from].beliefs[to]) : NONE;
    }

    public int octets(int m) {
        return isUnderWay(m) ? messages[m].octets.size() : NONE;
    }

    public int octet(int m, int k) {
        return isUnderWay(m) ? messages[m].octets.get(k) : NONE;
    }

    public int events(int r) {
        return isSite(r) ? Long.bitCount(sites[r].graph) : NONE;
    }

    public int heads(int r) {
        return isSite(r) ? Long.bitCount(history.headsOf(sites[r].graph)) : NONE;
    }

    public int head(int r, int k) {
        if (!isSite(r) || k < 0) {
            return NONE;
        }
        long rest = history.headsOf(sites[r].graph);
        int head = history.leastOf(rest);
        for (int passed = 0; passed < k && head != NO_EVENT; passed++) {
            rest &= ~bit(head);
            head = history.leastOf(rest);
        }
        return head == NO_EVENT ? NONE : history.codeOf(head);
    }

    public int ancestor(int a, int i, int b, int j) {
        if (!history.wasMade(a, i) || !history.wasMade(b, j)) {
            return NONE;
        }
        return has(history.ancestorsOf(history.slotOf(b, j)), history.slotOf(a, i)) ? 1 : 0;
    }

    public int critical(int r) {
        if (!isSite(r)) {
            return NONE;
        }
        long graph = sites[r].graph;
        return Long.bitCount(history.upTo(history.lastCritical(graph, graph)));
    }

    public int replayed(int r) {
        return isSite(r) ? sites[r].merge.replayed : NONE;
    }

    public int moves(int r) {
        return isSite(r) ? sites[r].merge.moves : NONE;
    }

    public int operation(int r, int k) {
        if (!isSite(r) || k < 0 || k >= sites[r].merge.applied) {
            return NONE;
        }
        return sites[r].merge.operations[k];
    }

    private boolean isUnderWay(int m) {
        return m >= 0 && m < MESSAGES && messages[m].underWay;
    }

    private int freeNumber() {
        int m = 0;
        while (m < MESSAGES && messages[m].underWay) {
            m++;
        }
        return m;
    }

    private static boolean isSite(int r) {
        return r >= 0 && r < SITES;
    }

    private static boolean areTwoSites(int from, int to) {
        return isSite(from) && isSite(to) && from != to;
    }

    private static long bit(int slot) {
        return 1L << slot;
    }

    private static boolean has(long set, int slot) {
        return slot >= 0 && (set & bit(slot)) != 0;
    }

    /** The events of all sites. A slot is never given before the slots of the event's ancestors. */
    private static final class History {
        private final int[] sites = new int[MOST_EVENTS];
        private final int[] numbers = new int[MOST_EVENTS];
        private final int[] indices = new int[MOST_EVENTS];
        private final int[] characters = new int[MOST_EVENTS];
        private final long[] parents = new long[MOST_EVENTS];
        private final long[] ancestors = new long[MOST_EVENTS];
        private final int[] slots = new int[SITES * MOST_EVENTS];
        private final int[] made = new int[SITES];
        private int count = 0;

        boolean isFull() {
            return count >= MOST_EVENTS;
        }

        int record(int site, int index, int character, long graph) {
            int slot = count;
            sites[slot] = site;
            numbers[slot] = made[site];
            indices[slot] = index;
            characters[slot] = character;
            parents[slot] = headsOf(graph);
            ancestors[slot] = graph;
            slots[site * MOST_EVENTS + made[site]] = slot;
            made[site]++;
            count++;
            return slot;
        }

        boolean wasMade(int site, int number) {
            return isSite(site) && number >= 0 && number < made[site];
        }

        int slotOf(int site, int number) {
            return slots[site * MOST_EVENTS + number];
        }

        int siteOf(int slot) {
            return sites[slot];
        }

        int numberOf(int slot) {
            return numbers[slot];
        }

        int indexOf(int slot) {
            return indices[slot];
        }

        int characterOf(int slot) {
            return characters[slot];
        }

        boolean isInsert(int slot) {
            return characters[slot] != NO_CHARACTER;
        }

        long parentsOf(int slot) {
            return parents[slot];
        }

        long ancestorsOf(int slot) {
            return ancestors[slot];
        }

        int codeOf(int slot) {
            return sites[slot] + SITES * numbers[slot];
        }

        /** Empty for NO_EVENT, so that a merge without a base starts from nothing. */
        long upTo(int slot) {
            return slot == NO_EVENT ? 0L : ancestors[slot] | bit(slot);
        }

        boolean comesBefore(int slot, int other) {
            if (sites[slot] != sites[other]) {
                return sites[slot] < sites[other];
            }
            return numbers[slot] < numbers[other];
        }

        int leastOf(long set) {
            int least = NO_EVENT;
            for (int slot = 0; slot < count; slot++) {
                if (has(set, slot) && (least == NO_EVENT || comesBefore(slot, least))) {
                    least = slot;
                }
            }
            return least;
        }

        long withAncestors(long set) {
            long all = set;
            for (int slot = 0; slot < count; slot++) {
                if (has(set, slot)) {
                    all |= ancestors[slot];
                }
            }
            return all;
        }

        long parentsOfAll(long set) {
            long all = 0L;
            for (int slot = 0; slot < count; slot++) {
                if (has(set, slot)) {
                    all |= parents[slot];
                }
            }
            return all;
        }

        /** In a graph each event that is no head is the parent of another, as the graph has all ancestors. */
        long headsOf(long graph) {
            return graph & ~parentsOfAll(graph);
        }

        long descendantsOf(int ancestor, long graph) {
            long all = 0L;
            for (int slot = ancestor + 1; slot < count; slot++) {
                if (has(graph, slot) && has(ancestors[slot], ancestor)) {
                    all |= bit(slot);
                }
            }
            return all;
        }

        boolean isCritical(int slot, long graph) {
            return (graph & ~(upTo(slot) | descendantsOf(slot, graph))) == 0;
        }

        /** Critical events are ancestors of one another, so the one in the last slot has the most ancestors. */
        int lastCritical(long graph, long candidates) {
            for (int slot = count - 1; slot >= 0; slot--) {
                if (has(candidates, slot) && isCritical(slot, graph)) {
                    return slot;
                }
            }
            return NO_EVENT;
        }

        /** The one of the waiting events that THE ORDER lists next, after the event listed last. */
        int nextOf(long waiting, int last) {
            long ready = 0L;
            long followers = 0L;
            for (int slot = 0; slot < count; slot++) {
                if (has(waiting, slot) && (parents[slot] & waiting) == 0) {
                    ready |= bit(slot);
                    if (has(parents[slot], last)) {
                        followers |= bit(slot);
                    }
                }
            }
            return leastOf(followers != 0 ? followers : ready);
        }
    }

    /** A set of events in THE ORDER. */
    private static final class Line {
        private final int[] slots = new int[MOST_EVENTS];
        private int count = 0;

        void arrange(History history, long set) {
            long waiting = set;
            int next = history.nextOf(waiting, NO_EVENT);
            count = 0;
            while (count < MOST_EVENTS && next != NO_EVENT) {
                slots[count] = next;
                count++;
                waiting &= ~bit(next);
                next = history.nextOf(waiting, next);
            }
        }

        int size() {
            return count;
        }

        int get(int k) {
            return slots[k];
        }
    }

    /**
     * The list of all inserts of all sites. The place of a character is for good, so the list of a
     * set of events is this list with the characters of other inserts passed over.
     */
    private static final class CharacterList {
        private final int[] order = new int[MOST_EVENTS];
        private final int[] holders = new int[MOST_EVENTS];
        private final boolean[] onTheRight = new boolean[MOST_EVENTS];
        /** Each character with all those that it stands below: so no walk up the tree is needed. */
        private final long[] chains = new long[MOST_EVENTS];
        private final int[] taken = new int[MOST_EVENTS];
        private long deletes = 0L;
        private long inserts = 0L;
        private int count = 0;

        void hide(int delete, int character) {
            taken[delete] = character;
            deletes |= bit(delete);
        }

        int takenBy(int delete) {
            return taken[delete];
        }

        long shownIn(long set) {
            long hidden = 0L;
            for (int slot = 0; slot < MOST_EVENTS; slot++) {
                if (has(set & deletes, slot)) {
                    hidden |= bit(taken[slot]);
                }
            }
            return set & inserts & ~hidden;
        }

        /** NO_EVENT if no character is shown at that index. */
        int shownAt(long shown, int index) {
            int passed = 0;
            for (int k = 0; k < count; k++) {
                if (has(shown, order[k])) {
                    if (passed == index) {
                        return order[k];
                    }
                    passed++;
                }
            }
            return NO_EVENT;
        }

        int indexIn(long shown, int character) {
            int index = 0;
            for (int k = 0; k < count && order[k] != character; k++) {
                if (has(shown, order[k])) {
                    index++;
                }
            }
            return index;
        }

        void putBehind(History history, int slot, int left, long graph) {
            boolean right = (childrenOf(left, true) & graph) == 0;
            int holder = right ? left : nextBehind(left, graph);
            holders[slot] = holder;
            onTheRight[slot] = right;
            chains[slot] = bit(slot) | (holder == START ? 0L : chains[holder]);
            int position = right ? rightPosition(history, slot, holder) : leftPosition(history, slot, holder);
            for (int k = count; k > position; k--) {
                order[k] = order[k - 1];
            }
            order[position] = slot;
            inserts |= bit(slot);
            count++;
        }

        private long childrenOf(int holder, boolean right) {
            long children = 0L;
            for (int k = 0; k < count; k++) {
                int slot = order[k];
                if (holders[slot] == holder && onTheRight[slot] == right) {
                    children |= bit(slot);
                }
            }
            return children;
        }

        private int nextBehind(int left, long graph) {
            boolean passed = left == START;
            for (int k = 0; k < count; k++) {
                if (passed && has(graph, order[k])) {
                    return order[k];
                }
                passed = passed || order[k] == left;
            }
            return START;
        }

        private int leftPosition(History history, int slot, int holder) {
            long behind = nearerSiblings(history, slot, holder, false);
            int k = 0;
            while (k < count && order[k] != holder && (chains[order[k]] & behind) == 0) {
                k++;
            }
            return k;
        }

        private int rightPosition(History history, int slot, int holder) {
            long before = nearerSiblings(history, slot, holder, true);
            int k = count;
            while (k > 0 && order[k - 1] != holder && (chains[order[k - 1]] & before) == 0) {
                k--;
            }
            return k;
        }

        /**
         * The holder may have other children on that side, made by sites that did not know of this one.
         * Identifiers grow from left to right, so those between it and the holder have greater ones on
         * the left and lesser ones on the right.
         */
        private long nearerSiblings(History history, int slot, int holder, boolean right) {
            long children = childrenOf(holder, right);
            long nearer = 0L;
            for (int k = 0; k < count; k++) {
                int other = order[k];
                if (has(children, other) && history.comesBefore(other, slot) == right) {
                    nearer |= bit(other);
                }
            }
            return nearer;
        }
    }

    private static final class Site {
        private final long[] beliefs = new long[SITES];
        private final Merge merge = new Merge();
        private long graph = 0L;
    }

    /** What the latest merge at a site did. */
    private static final class Merge {
        private final int[] operations = new int[MOST_EVENTS];
        private int applied = 0;
        private int replayed = 0;
        private int moves = 0;

        void perform(History history, CharacterList characters, Line line, long before, long fresh) {
            long settled = history.upTo(history.lastCritical(before | fresh, before));
            long again = before & ~settled;
            moves = 0;
            replayed = Long.bitCount(again);
            line.arrange(history, again);
            long version = passThrough(history, line, settled);
            line.arrange(history, fresh);
            passThrough(history, line, version);
            applyAll(history, characters, line, before);
        }

        /** Each step leaves the version as an event with its ancestors: the moves are where the two sets differ. */
        private long passThrough(History history, Line line, long start) {
            long version = start;
            for (int k = 0; k < line.size(); k++) {
                int slot = line.get(k);
                moves += Long.bitCount(version ^ history.ancestorsOf(slot));
                version = history.upTo(slot);
            }
            return version;
        }

        private void applyAll(History history, CharacterList characters, Line line, long before) {
            long present = before;
            applied = line.size();
            for (int k = 0; k < applied; k++) {
                int slot = line.get(k);
                operations[k] = history.isInsert(slot)
                        ? characters.indexIn(characters.shownIn(present), slot)
                        : removal(characters, present, characters.takenBy(slot));
                present |= bit(slot);
            }
        }

        private static int removal(CharacterList characters, long present, int character) {
            long shown = characters.shownIn(present);
            return has(shown, character) ? -1 - characters.indexIn(shown, character) : NOTHING;
        }
    }

    private static final class Message {
        private final OctetRow octets = new OctetRow();
        private boolean underWay = false;
        private int from = 0;
        private int to = 0;
        private long carried = 0L;

        void start(int sender, int receiver, long events) {
            underWay = true;
            from = sender;
            to = receiver;
            carried = events;
        }

        void write(History history, Line line) {
            octets.clear();
            octets.put(line.size());
            writeSites(history, line);
            writeKinds(history, line);
            writeIndices(history, line);
            writeCharacters(history, line);
            writeParents(history, line);
        }

        private void writeSites(History history, Line line) {
            int first = 0;
            for (int k = 1; k <= line.size(); k++) {
                int site = history.siteOf(line.get(first));
                if (k == line.size() || history.siteOf(line.get(k)) != site) {
                    octets.put(site);
                    octets.put(history.numberOf(line.get(first)));
                    octets.put(k - first);
                    first = k;
                }
            }
        }

        private void writeKinds(History history, Line line) {
            boolean inserts = true;
            int run = 0;
            for (int k = 0; k < line.size(); k++) {
                if (history.isInsert(line.get(k)) != inserts) {
                    octets.put(run);
                    inserts = !inserts;
                    run = 0;
                }
                run++;
            }
            octets.put(run);
        }

        private void writeIndices(History history, Line line) {
            int previous = 0;
            for (int k = 0; k < line.size(); k++) {
                int index = history.indexOf(line.get(k));
                octets.putSigned(index - previous);
                previous = index;
            }
        }

        private void writeCharacters(History history, Line line) {
            int previous = 0;
            for (int k = 0; k < line.size(); k++) {
                if (history.isInsert(line.get(k))) {
                    int character = history.characterOf(line.get(k));
                    octets.putSigned(character - previous);
                    previous = character;
                }
            }
        }

        private void writeParents(History history, Line line) {
            for (int k = 0; k < line.size(); k++) {
                long parents = history.parentsOf(line.get(k));
                if (k > 0 && parents == bit(line.get(k - 1))) {
                    octets.put(0);
                } else {
                    writeParentList(history, parents);
                }
            }
        }

        private void writeParentList(History history, long parents) {
            int size = Long.bitCount(parents);
            long rest = parents;
            int parent = history.leastOf(rest);
            octets.put(1 + size);
            for (int k = 0; k < size && parent != NO_EVENT; k++) {
                octets.put(history.codeOf(parent));
                rest &= ~bit(parent);
                parent = history.leastOf(rest);
            }
        }
    }

    private static final class OctetRow {
        /**
         * Room for the longest message: the count; for each of its events three for a run of its site,
         * one for a run of its kind, one for its index, two for its character, and four for its parents
         * (at most one of each site); and one more for a first run of no inserts.
         */
        private static final int ROOM = 2 + 11 * MOST_EVENTS;
        private static final int MOST_OCTETS_OF_INT = 5;

        private final int[] row = new int[ROOM];
        private int count = 0;

        void clear() {
            count = 0;
        }

        int size() {
            return count;
        }

        int get(int k) {
            return k >= 0 && k < count ? row[k] : NONE;
        }

        void put(int number) {
            int rest = number;
            for (int k = 1; k < MOST_OCTETS_OF_INT && rest > 127; k++) {
                add(128 + (rest & 127));
                rest = rest >> 7;
            }
            add(rest);
        }

        void putSigned(int difference) {
            put(difference < 0 ? -2 * difference - 1 : 2 * difference);
        }

        private void add(int octet) {
            if (count < ROOM) {
                row[count] = octet;
                count++;
            }
        }
    }
}
