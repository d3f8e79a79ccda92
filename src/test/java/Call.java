/** One call by its name and arguments, so that tests can list calls, make them again and print them. */
record Call(String name, int... arguments) {
    /** A boolean counts 1 or 0. */
    long ask(EventGraphText x) {
        int[] a = arguments;
        return switch (name) {
            case "insert" -> x.insert(a[0], a[1], a[2]);
            case "delete" -> x.delete(a[0], a[1]);
            case "length" -> x.length(a[0]);
            case "at" -> x.at(a[0], a[1]);
            case "send" -> x.send(a[0], a[1]);
            case "deliver" -> x.deliver(a[0]);
            case "discard" -> x.discard(a[0]) ? 1 : 0;
            case "hear" -> x.hear(a[0], a[1]);
            case "believed" -> x.believed(a[0], a[1]);
            case "octets" -> x.octets(a[0]);
            case "octet" -> x.octet(a[0], a[1]);
            case "events" -> x.events(a[0]);
            case "heads" -> x.heads(a[0]);
            case "head" -> x.head(a[0], a[1]);
            case "ancestor" -> x.ancestor(a[0], a[1], a[2], a[3]);
            case "critical" -> x.critical(a[0]);
            case "replayed" -> x.replayed(a[0]);
            case "moves" -> x.moves(a[0]);
            case "operation" -> x.operation(a[0], a[1]);
            default -> throw new IllegalArgumentException(name);
        };
    }

    long ask(ReferenceText y) {
        int[] a = arguments;
        return switch (name) {
            case "insert" -> y.insert(a[0], a[1], a[2]);
            case "delete" -> y.delete(a[0], a[1]);
            case "length" -> y.length(a[0]);
            case "at" -> y.at(a[0], a[1]);
            case "send" -> y.send(a[0], a[1]);
            case "deliver" -> y.deliver(a[0]);
            case "discard" -> y.discard(a[0]) ? 1 : 0;
            case "hear" -> y.hear(a[0], a[1]);
            case "believed" -> y.believed(a[0], a[1]);
            case "octets" -> y.octets(a[0]);
            case "octet" -> y.octet(a[0], a[1]);
            case "events" -> y.events(a[0]);
            case "heads" -> y.heads(a[0]);
            case "head" -> y.head(a[0], a[1]);
            case "ancestor" -> y.ancestor(a[0], a[1], a[2], a[3]);
            case "critical" -> y.critical(a[0]);
            case "replayed" -> y.replayed(a[0]);
            case "moves" -> y.moves(a[0]);
            case "operation" -> y.operation(a[0], a[1]);
            default -> throw new IllegalArgumentException(name);
        };
    }

    @Override
    public String toString() {
        StringBuilder text = new StringBuilder(name).append('(');
        for (int k = 0; k < arguments.length; k++) {
            text.append(k == 0 ? "" : ", ").append(arguments[k]);
        }
        return text.append(')').toString();
    }
}
