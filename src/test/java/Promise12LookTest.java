/** Promise 12, look, sentence by sentence. */
public final class Promise12LookTest {
    private static final Promise promise = new Promise("promise 12");

    public static void main(String[] args) {
        theMake();
        howManyPlaces();
        noneOfANotice();
        noneOfNothing();
        theLeastHook();
        noLeastHookOfNothing();
        noneForOthers();
        noSuchHook();
        promise.end();
    }

    private static void theMake() {
        Edge edge = promise.says("what 0: the MAKE of what it holds");
        for (int hook = 0; hook <= 6; hook++) {
            edge.answers(hook, "look", hook, 0);
        }
        edge.answers(3, "look", 7, 0);
    }

    private static void howManyPlaces() {
        Edge edge = promise.says("1: how many PLACES");
        edge.answers(4, "look", 0, 1).answers(3, "look", 1, 1).answers(3, "look", 2, 1).answers(4, "look", 3, 1)
            .answers(4, "look", 4, 1).answers(4, "look", 7, 1);
        edge.on("all", "doctors", "nurses", "hours", "pay").answers(0, "look", 0, 1).answers(0, "look", 1, 1)
            .answers(0, "look", 2, 1).answers(0, "look", 3, 1).answers(0, "look", 4, 1);
        edge.on(Edge.full("all", "-", 40), Edge.full("pay", "0", 40)).answers(40, "look", 0, 1)
            .answers(40, "look", 1, 1);
    }

    private static void noneOfANotice() {
        promise.says("1: how many PLACES (NONE of a NOTICE)").answers(-1, "look", 5, 1);
    }

    private static void noneOfNothing() {
        promise.says("1: how many PLACES (NONE of NOTHING)").answers(-1, "look", 6, 1);
    }

    private static void theLeastHook() {
        Edge edge = promise.says("2: the least hook that holds the same");
        edge.answers(0, "look", 0, 2).answers(3, "look", 3, 2).answers(3, "look", 7, 2).answers(5, "look", 5, 2);
        edge.on("hours", "hours", "nothing", "as 1", "notice", "notice", "as 1", "as 5").answers(0, "look", 0, 2)
            .answers(1, "look", 1, 2).answers(1, "look", 3, 2).answers(1, "look", 6, 2).answers(4, "look", 4, 2)
            .answers(5, "look", 5, 2).answers(5, "look", 7, 2);
    }

    private static void noLeastHookOfNothing() {
        Edge edge = promise.says("2: the least hook that holds the same (NONE of NOTHING)");
        edge.answers(-1, "look", 6, 2);
        edge.on("nothing", "nothing").answers(-1, "look", 0, 2).answers(-1, "look", 1, 2).answers(-1, "look", 7, 2);
    }

    private static void noneForOthers() {
        Edge edge = promise.says("NONE for others");
        for (int what : new int[] {-1, 3, Edge.MIN, Edge.MAX}) {
            for (int hook = 0; hook <= 7; hook++) {
                edge.answers(-1, "look", hook, what);
            }
        }
    }

    private static void noSuchHook() {
        Edge edge = promise.says("IllegalArgumentException: no such hook");
        for (int hook : Edge.NO_HOOKS) {
            edge.illegal("look", hook, 0).illegal("look", hook, 1).illegal("look", hook, 2).illegal("look", hook, 3)
                .illegal("look", hook, -1);
        }
    }
}
