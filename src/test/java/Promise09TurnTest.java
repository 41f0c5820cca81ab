/** Promise 9, turn, sentence by sentence. */
public final class Promise09TurnTest {
    private static final Promise promise = new Promise("promise 9");

    public static void main(String[] args) {
        theFirstComeBehind();
        by0();
        byAll();
        aRowOf0Places();
        aRowOf40Places();
        missing();
        missingAheadOfThePlace();
        noRow();
        noRowAheadOfThePlace();
        kBelow0();
        kIsMore();
        noSuchHook();
        promise.end();
    }

    private static void theFirstComeBehind() {
        Edge edge = promise.says("The first k PLACES of a hook's ROW come, in order, behind all others");
        Edge hours = edge.on("hours 1 2 3 4 5");
        hours.leaving("hours 2 3 4 5 1").answers(0, "turn", 0, 1);
        hours.leaving("hours 3 4 5 1 2").answers(0, "turn", 0, 2);
        hours.leaving("hours 4 5 1 2 3").answers(0, "turn", 0, 3);
        hours.leaving("hours 5 1 2 3 4").answers(0, "turn", 0, 4);
        edge.on("all 0 - 2").leaving("all - 2 0").answers(0, "turn", 0, 1);
        edge.on("doctors 0 - 3").leaving("doctors 3 0 -").answers(0, "turn", 0, 2);
        edge.on("nurses - 4").leaving("nurses 4 -").answers(0, "turn", 0, 1);
        edge.on("pay 1 " + Long.MIN_VALUE).leaving("pay " + Long.MIN_VALUE + " 1").answers(0, "turn", 0, 1);
    }

    private static void by0() {
        Edge edge = promise.says("The first k PLACES come behind all others: k is 0");
        edge.answers(0, "turn", 3, 0).answers(0, "turn", 0, 0).answers(0, "turn", 7, 0);
    }

    private static void byAll() {
        Edge edge = promise.says("The first k PLACES come behind all others: k is all");
        edge.answers(0, "turn", 3, 4).answers(0, "turn", 1, 3);
        edge.on("pay 1").answers(0, "turn", 0, 1);
    }

    private static void aRowOf0Places() {
        Edge edge = promise.says("of a hook's ROW: of 0 PLACES");
        for (String make : new String[] {"doctors", "hours", "pay"}) {
            edge.on(make).answers(0, "turn", 0, 0).answers(3, "turn", 0, 1).answers(3, "turn", 0, -1);
        }
    }

    private static void aRowOf40Places() {
        Edge edge = promise.says("of a hook's ROW: of 40 PLACES").on(Edge.upTo("hours", 1, 40));
        edge.answers(0, "turn", 0, 0).answers(0, "turn", 0, 40).answers(3, "turn", 0, 41);
        edge.leaving(Edge.upTo("hours", 2, 40) + " 1").answers(0, "turn", 0, 1);
        edge.leaving(Edge.upTo("hours 40", 1, 39)).answers(0, "turn", 0, 39);
    }

    private static void missing() {
        promise.says("1 (a hook that is told holds NOTHING)").answers(1, "turn", 6, 0);
    }

    private static void missingAheadOfThePlace() {
        promise.says("1; ahead of 3").answers(1, "turn", 6, -1).answers(1, "turn", 6, 1);
    }

    private static void noRow() {
        promise.says("2: no ROW").answers(2, "turn", 5, 0);
    }

    private static void noRowAheadOfThePlace() {
        promise.says("2: no ROW; ahead of 3").answers(2, "turn", 5, -1).answers(2, "turn", 5, 1);
    }

    private static void kBelow0() {
        Edge edge = promise.says("3: k is below 0");
        edge.answers(3, "turn", 3, -1).answers(3, "turn", 0, -4).answers(3, "turn", 3, Edge.MIN);
    }

    private static void kIsMore() {
        Edge edge = promise.says("3: k is more than there are");
        edge.answers(3, "turn", 3, 5).answers(3, "turn", 1, 4).answers(3, "turn", 3, 40)
            .answers(3, "turn", 3, Edge.MAX);
    }

    private static void noSuchHook() {
        Edge edge = promise.says("IllegalArgumentException: no such hook");
        for (int hook : Edge.NO_HOOKS) {
            edge.illegal("turn", hook, 0).illegal("turn", hook, 1).illegal("turn", hook, -1);
        }
        edge.on("hours 1 2").leaving("hours 2 1").answers(0, "turn", 0, 1);
    }
}
