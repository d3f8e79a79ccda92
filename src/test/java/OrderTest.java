/**
 * THE ORDER, sentence by sentence, worked out by hand: in what a message carries, in what a merge
 * replays, and in what it applies. Comments name an event by its site and its number there.
 */
public final class OrderTest {
    private final Checks checks = new Checks("OrderTest");

    public static void main(String[] args) {
        OrderTest test = new OrderTest();
        test.allParentsAreListedFirst();
        test.parentsOutsideTheSet();
        test.leastOfThoseThatFollow();
        test.followersComeBeforeLesserOnes();
        test.leastOfAllIfNoneFollows();
        test.replayedInTheOrder();
        test.appliedInTheOrderOfTheNewOnes();
        test.newOnesDoNotFollowReplayedOnes();
        test.checks.end();
    }

    private Run start(String part) {
        return new Run(checks, "THE ORDER: " + part);
    }

    /** 0 2 follows 0 1, but waits for 1 0, which is its parent too. */
    private void allParentsAreListedFirst() {
        Run run = start("all those of its parents that are in the set are listed");
        run.ask("insert", 0, 0, 32);
        run.pass(0, 1);
        run.ask("insert", 0, 0, 32);
        run.ask("insert", 1, 0, 32);
        run.pass(1, 0);
        run.ask("insert", 0, 0, 32);
        run.due(0, "send", 0, 2);
        run.dueOctets(0, 4, 0, 0, 2, 1, 0, 1, 0, 2, 1, 4, 0, 0, 0, 0, 64, 0, 0, 0, 1, 0, 2, 0, 3, 3, 1);
    }

    /** 0 0 is the parent of 0 1 and of 1 0, but it is not carried: so neither waits for it. */
    private void parentsOutsideTheSet() {
        Run run = start("a parent that is not in the set is not waited for");
        run.ask("insert", 0, 0, 32);
        run.pass(0, 1);
        run.pass(0, 2);
        run.ask("insert", 1, 0, 32);
        run.ask("insert", 0, 0, 32);
        run.pass(1, 0);
        run.ask("insert", 0, 0, 32);
        run.due(0, "send", 0, 2);
        run.dueOctets(0, 3, 0, 1, 1, 1, 0, 1, 0, 2, 1, 3, 0, 0, 0, 64, 0, 0, 2, 0, 2, 0, 3, 3, 1);
    }

    /** 1 0 and 2 0 both follow 0 0; 2 0 was made first. */
    private void leastOfThoseThatFollow() {
        Run run = start("of those that follow, the one with the least identifier");
        run.ask("insert", 0, 0, 32);
        run.pass(0, 1);
        run.pass(0, 2);
        run.ask("insert", 2, 0, 32);
        run.ask("insert", 1, 0, 32);
        run.pass(2, 1);
        run.ask("insert", 0, 0, 32);
        run.due(0, "hear", 1, 0);
        run.due(0, "send", 1, 0);
        run.dueOctets(0, 3, 0, 0, 1, 1, 0, 1, 2, 0, 1, 3, 0, 0, 0, 64, 0, 0, 1, 0, 2, 0);
    }

    /** Both events of site 2 come before those of site 1, as each follows the one listed last. */
    private void followersComeBeforeLesserOnes() {
        Run run = start("one that follows comes before a lesser one that does not");
        run.ask("insert", 0, 0, 32);
        run.ask("insert", 1, 0, 32);
        run.ask("insert", 1, 0, 32);
        run.pass(0, 2);
        run.ask("insert", 2, 0, 32);
        run.ask("insert", 2, 0, 32);
        run.pass(1, 2);
        run.ask("insert", 0, 0, 32);
        run.due(0, "hear", 2, 0);
        run.due(0, "send", 2, 0);
        run.dueOctets(0, 5, 0, 0, 1, 2, 0, 2, 1, 0, 2, 5, 0, 0, 0, 0, 0, 64, 0, 0, 0, 0, 1, 0, 0, 1, 0);
    }

    /** Nothing follows 0 1; 1 0, which was made last, and 2 0 can come next. */
    private void leastOfAllIfNoneFollows() {
        Run run = start("otherwise the one with the least identifier of all that can");
        run.ask("insert", 2, 0, 32);
        run.ask("insert", 0, 0, 32);
        run.ask("insert", 0, 0, 32);
        run.ask("insert", 1, 0, 32);
        run.pass(2, 1);
        run.pass(0, 1);
        run.ask("insert", 0, 0, 32);
        run.due(0, "hear", 1, 0);
        run.due(0, "send", 1, 0);
        run.dueOctets(0, 4, 0, 0, 2, 1, 0, 1, 2, 0, 1, 4, 0, 0, 0, 0, 64, 0, 0, 0, 1, 0, 1, 1);
    }

    /**
     * Replayed are 0 0, 2 0, 2 1, 1 0: only 1 0 takes the three before it out, and 1 1, which is new,
     * moves nothing. By identifiers, or as they were made, it would be seven moves.
     */
    private void replayedInTheOrder() {
        Run run = start("the replayed events");
        run.type(0, "a");
        run.type(1, "d");
        run.pass(0, 2);
        run.type(2, "bc");
        run.pass(1, 2);
        run.dueMerge(2, 3, 3, 3);
        run.type(1, "e");
        run.pass(1, 2);
        run.dueMerge(2, 4, 3, 4);
        run.dueText(2, "abcde");
    }

    /** Carried are 0 0, 2 0, 1 0; the new ones by themselves are 1 0, 2 0, as nothing is listed before. */
    private void appliedInTheOrderOfTheNewOnes() {
        Run run = start("the new events, without those that are known");
        run.type(0, "a");
        run.pass(0, 2);
        run.type(2, "c");
        run.type(1, "b");
        run.pass(1, 2);
        run.type(0, "d");
        run.due(0, "hear", 2, 0);
        run.due(0, "send", 2, 0);
        run.due(2, "deliver", 0);
        run.dueMerge(0, 2, 4, 2, 2);
        run.dueText(0, "adcb");
    }

    /** 0 0 is replayed last and is the parent of 2 0; but among the new ones nothing is listed yet: 1 0, 2 0. */
    private void newOnesDoNotFollowReplayedOnes() {
        Run run = start("the new events, without those that are replayed");
        run.type(0, "a");
        run.pass(0, 2);
        run.type(2, "c");
        run.type(1, "b");
        run.pass(1, 2);
        run.due(0, "send", 2, 0);
        run.due(2, "deliver", 0);
        run.dueMerge(0, 1, 3, 1, 1);
        run.dueText(0, "acb");
    }
}
