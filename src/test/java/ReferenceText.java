import java.util.ArrayList;
import java.util.Comparator;
import java.util.HashSet;
import java.util.List;
import java.util.Set;
import java.util.function.Predicate;

/** The document's terms, taken word by word and without regard to cost: what the program is compared with. */
final class ReferenceText {
    static final int NONE = -1000;
    static final int MISSING = -1;
    static final int NOTHING = 1000;

    private static final class Event {
        int site;
        int number;
        int index;
        int character;
        boolean insert;
        Set<Event> parents = new HashSet<>();
        Set<Event> ancestors = new HashSet<>();
        Event placedAt;
        boolean rightChild;
        Event takesOut;
    }

    private static final class Message {
        int from;
        int to;
        List<Event> carried;
    }

    private static final class Site {
        final Set<Event> graph = new HashSet<>();
        final List<Integer> text = new ArrayList<>();
        boolean merged = false;
        int replayed = 0;
        int moves = 0;
        final List<Integer> operations = new ArrayList<>();
    }

    private static final Comparator<Event> BY_IDENTIFIER =
            Comparator.<Event>comparingInt(e -> e.site).thenComparingInt(e -> e.number);

    private final List<Event> all = new ArrayList<>();
    private final Site[] sites = {new Site(), new Site(), new Site()};
    private final List<List<Set<Event>>> believed = new ArrayList<>();
    private final Message[] messages = new Message[6];

    ReferenceText() {
        for (int a = 0; a < 3; a++) {
            believed.add(List.of(new HashSet<>(), new HashSet<>(), new HashSet<>()));
        }
    }

    int insert(int r, int index, int c) {
        if (badSite(r) || index < 0 || index > sites[r].text.size() || c < 32 || c > 126 || all.size() == 40) {
            return NONE;
        }
        Event e = makeEvent(r, index);
        e.insert = true;
        e.character = c;
        place(e);
        sites[r].text.add(index, c);
        return enter(e);
    }

    int delete(int r, int index) {
        if (badSite(r) || index < 0 || index > sites[r].text.size() - 1 || all.size() == 40) {
            return NONE;
        }
        Event e = makeEvent(r, index);
        e.takesOut = shownOf(e.ancestors).get(index);
        sites[r].text.remove(index);
        return enter(e);
    }

    private Event makeEvent(int r, int index) {
        Event e = new Event();
        e.site = r;
        e.number = (int) all.stream().filter(x -> x.site == r).count();
        e.index = index;
        e.parents.addAll(headsOf(sites[r].graph));
        for (Event parent : e.parents) {
            e.ancestors.add(parent);
            e.ancestors.addAll(parent.ancestors);
        }
        return e;
    }

    private int enter(Event e) {
        all.add(e);
        sites[e.site].graph.add(e);
        return e.number;
    }

    private void place(Event e) {
        Event left = e.index == 0 ? null : shownOf(e.ancestors).get(e.index - 1);
        boolean hasRight = e.ancestors.stream().anyMatch(x -> x.insert && x.rightChild && x.placedAt == left);
        if (!hasRight) {
            e.placedAt = left;
            e.rightChild = true;
        } else {
            List<Event> list = listOf(e.ancestors);
            e.placedAt = list.get(left == null ? 0 : list.indexOf(left) + 1);
            e.rightChild = false;
        }
    }

    private static List<Event> listOf(Set<Event> s) {
        List<Event> list = new ArrayList<>();
        addBelow(null, s, list);
        return list;
    }

    private static void addBelow(Event c, Set<Event> s, List<Event> list) {
        s.stream().filter(x -> x.insert && x.placedAt == c && !x.rightChild).sorted(BY_IDENTIFIER)
                .forEach(x -> addBelow(x, s, list));
        if (c != null) {
            list.add(c);
        }
        s.stream().filter(x -> x.insert && x.placedAt == c && x.rightChild).sorted(BY_IDENTIFIER)
                .forEach(x -> addBelow(x, s, list));
    }

    private static List<Event> shownOf(Set<Event> s) {
        List<Event> list = listOf(s);
        list.removeIf(c -> s.stream().anyMatch(x -> x.takesOut == c));
        return list;
    }

    private static List<Event> headsOf(Set<Event> graph) {
        List<Event> heads = new ArrayList<>(graph);
        heads.removeIf(e -> graph.stream().anyMatch(x -> x.ancestors.contains(e)));
        heads.sort(BY_IDENTIFIER);
        return heads;
    }

    private static List<Event> orderOf(Set<Event> set) {
        List<Event> listed = new ArrayList<>();
        while (listed.size() < set.size()) {
            List<Event> can = new ArrayList<>();
            for (Event e : set) {
                if (!listed.contains(e) && e.parents.stream().allMatch(p -> !set.contains(p) || listed.contains(p))) {
                    can.add(e);
                }
            }
            can.sort(BY_IDENTIFIER);
            Predicate<Event> follows = e -> !listed.isEmpty() && e.parents.contains(listed.get(listed.size() - 1));
            listed.add(can.stream().filter(follows).findFirst().orElse(can.get(0)));
        }
        return listed;
    }

    int length(int r) {
        return badSite(r) ? NONE : sites[r].text.size();
    }

    int at(int r, int k) {
        return badSite(r) || k < 0 || k >= sites[r].text.size() ? NONE : sites[r].text.get(k);
    }

    int send(int from, int to) {
        if (badPair(from, to)) {
            return NONE;
        }
        Set<Event> carried = new HashSet<>(sites[from].graph);
        carried.removeAll(believed.get(from).get(to));
        for (int m = 0; m < 6 && !carried.isEmpty(); m++) {
            if (messages[m] == null) {
                messages[m] = new Message();
                messages[m].from = from;
                messages[m].to = to;
                messages[m].carried = orderOf(carried);
                believed.get(from).get(to).addAll(sites[from].graph);
                return m;
            }
        }
        return NONE;
    }

    int deliver(int m) {
        if (noMessage(m)) {
            return NONE;
        }
        List<Event> carried = messages[m].carried;
        Site b = sites[messages[m].to];
        for (Event e : carried) {
            if (!e.parents.stream().allMatch(p -> carried.contains(p) || b.graph.contains(p))) {
                return MISSING;
            }
        }
        Set<Event> taken = believed.get(messages[m].to).get(messages[m].from);
        for (Event e : carried) {
            taken.add(e);
            taken.addAll(e.ancestors);
        }
        Set<Event> fresh = new HashSet<>(carried);
        fresh.removeAll(b.graph);
        if (!fresh.isEmpty()) {
            merge(b, fresh);
        }
        return fresh.size();
    }

    private static boolean isCritical(Event e, Set<Event> graph) {
        return graph.stream().allMatch(x -> x == e || e.ancestors.contains(x) || x.ancestors.contains(e));
    }

    private static Event lastCritical(Set<Event> graph, Set<Event> candidates) {
        return candidates.stream().filter(e -> isCritical(e, graph))
                .max(Comparator.comparingInt(e -> e.ancestors.size())).orElse(null);
    }

    private static void merge(Site b, Set<Event> fresh) {
        Set<Event> together = new HashSet<>(b.graph);
        together.addAll(fresh);
        Event base = lastCritical(together, b.graph);
        Set<Event> version = new HashSet<>();
        if (base != null) {
            version.add(base);
            version.addAll(base.ancestors);
        }
        Set<Event> again = new HashSet<>(b.graph);
        again.removeAll(version);
        List<Event> newOnes = orderOf(fresh);
        List<Event> passed = orderOf(again);
        passed.addAll(newOnes);
        b.merged = true;
        b.replayed = again.size();
        b.moves = 0;
        for (Event e : passed) {
            b.moves += move(version, e);
        }
        b.operations.clear();
        for (Event e : newOnes) {
            b.operations.add(apply(b, e));
        }
    }

    private static int move(Set<Event> version, Event e) {
        int moves = 0;
        for (Event x : List.copyOf(version)) {
            if (!e.ancestors.contains(x)) {
                version.remove(x);
                moves++;
            }
        }
        for (Event x : e.ancestors) {
            if (version.add(x)) {
                moves++;
            }
        }
        version.add(e);
        return moves;
    }

    private static int apply(Site b, Event e) {
        int answer = NOTHING;
        if (e.insert) {
            b.graph.add(e);
            answer = shownOf(b.graph).indexOf(e);
            b.text.add(answer, e.character);
        } else {
            int index = shownOf(b.graph).indexOf(e.takesOut);
            if (index >= 0) {
                b.text.remove(index);
                answer = -1 - index;
            }
            b.graph.add(e);
        }
        return answer;
    }

    boolean discard(int m) {
        if (noMessage(m)) {
            return false;
        }
        messages[m] = null;
        return true;
    }

    int hear(int from, int to) {
        if (badPair(from, to)) {
            return NONE;
        }
        Set<Event> taken = believed.get(from).get(to);
        taken.clear();
        for (Event h : headsOf(sites[to].graph)) {
            if (sites[from].graph.contains(h)) {
                taken.add(h);
                taken.addAll(h.ancestors);
            }
        }
        return taken.size();
    }

    int believed(int from, int to) {
        return badPair(from, to) ? NONE : believed.get(from).get(to).size();
    }

    int octets(int m) {
        return noMessage(m) ? NONE : write(messages[m].carried).size();
    }

    int octet(int m, int k) {
        if (noMessage(m)) {
            return NONE;
        }
        List<Integer> row = write(messages[m].carried);
        return k < 0 || k >= row.size() ? NONE : row.get(k);
    }

    private static List<Integer> write(List<Event> carried) {
        List<Integer> row = new ArrayList<>();
        number(row, carried.size());
        for (List<Event> run : runs(carried, (a, b) -> a.site == b.site)) {
            number(row, run.get(0).site);
            number(row, run.get(0).number);
            number(row, run.size());
        }
        if (!carried.get(0).insert) {
            number(row, 0);
        }
        for (List<Event> run : runs(carried, (a, b) -> a.insert == b.insert)) {
            number(row, run.size());
        }
        for (int k = 0; k < carried.size(); k++) {
            signed(row, carried.get(k).index - (k == 0 ? 0 : carried.get(k - 1).index));
        }
        List<Event> inserts = carried.stream().filter(e -> e.insert).toList();
        for (int k = 0; k < inserts.size(); k++) {
            signed(row, inserts.get(k).character - (k == 0 ? 0 : inserts.get(k - 1).character));
        }
        for (int k = 0; k < carried.size(); k++) {
            Set<Event> parents = carried.get(k).parents;
            if (k > 0 && parents.equals(Set.of(carried.get(k - 1)))) {
                number(row, 0);
                continue;
            }
            number(row, 1 + parents.size());
            parents.stream().sorted(BY_IDENTIFIER).forEach(p -> number(row, p.site + 3 * p.number));
        }
        return row;
    }

    private interface Alike {
        boolean test(Event a, Event b);
    }

    private static List<List<Event>> runs(List<Event> events, Alike alike) {
        List<List<Event>> runs = new ArrayList<>();
        for (Event e : events) {
            if (runs.isEmpty() || !alike.test(runs.get(runs.size() - 1).get(0), e)) {
                runs.add(new ArrayList<>());
            }
            runs.get(runs.size() - 1).add(e);
        }
        return runs;
    }

    private static void number(List<Integer> row, int n) {
        if (n >= 128) {
            row.add(n % 128 + 128);
            number(row, n / 128);
        } else {
            row.add(n);
        }
    }

    private static void signed(List<Integer> row, int d) {
        number(row, d < 0 ? -2 * d - 1 : 2 * d);
    }

    int events(int r) {
        return badSite(r) ? NONE : sites[r].graph.size();
    }

    int heads(int r) {
        return badSite(r) ? NONE : headsOf(sites[r].graph).size();
    }

    int head(int r, int k) {
        if (badSite(r) || k < 0 || k >= heads(r)) {
            return NONE;
        }
        Event h = headsOf(sites[r].graph).get(k);
        return h.site + 3 * h.number;
    }

    int ancestor(int a, int i, int b, int j) {
        Event first = find(a, i);
        Event second = find(b, j);
        return first == null || second == null ? NONE : second.ancestors.contains(first) ? 1 : 0;
    }

    private Event find(int site, int number) {
        return all.stream().filter(e -> e.site == site && e.number == number).findFirst().orElse(null);
    }

    int critical(int r) {
        if (badSite(r)) {
            return NONE;
        }
        Event e = lastCritical(sites[r].graph, sites[r].graph);
        return e == null ? 0 : 1 + e.ancestors.size();
    }

    int replayed(int r) {
        return badSite(r) ? NONE : sites[r].replayed;
    }

    int moves(int r) {
        return badSite(r) ? NONE : sites[r].moves;
    }

    int operation(int r, int k) {
        if (badSite(r) || !sites[r].merged || k < 0 || k >= sites[r].operations.size()) {
            return NONE;
        }
        return sites[r].operations.get(k);
    }

    /** Whether the text that the operations made is the one that the list of the graph shows. */
    boolean textIsTheList(int r) {
        return shownOf(sites[r].graph).stream().map(e -> e.character).toList().equals(sites[r].text);
    }

    private boolean noMessage(int m) {
        return m < 0 || m > 5 || messages[m] == null;
    }

    private static boolean badSite(int r) {
        return r < 0 || r > 2;
    }

    private static boolean badPair(int a, int b) {
        return badSite(a) || badSite(b) || a == b;
    }
}
