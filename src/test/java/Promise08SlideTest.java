/** Promise 8, slide, sentence by sentence. */
public final class Promise08SlideTest {
    private static final Promise promise = new Promise("promise 8");

    public static void main(String[] args) {
        later();
        earlier();
        by0();
        fallsOff();
        nobodyOr0();
        asManyAtTheEnd();
        fromTheEndOn();
        aRowOf0Places();
        aRowOf40Places();
        missing();
        missingAheadOfThePlace();
        noRow();
        noRowAheadOfThePlace();
        iBelow0();
        iIsMore();
        togetherBelow0();
        togetherMore();
        notWrapped();
        noSuchHook();
        promise.end();
    }

    private static void later() {
        Edge edge = promise.says("What stands from PLACE i of a hook's ROW on comes k PLACES later")
            .on("hours 1 2 3 4 5");
        edge.leaving("hours 0 1 2 3 4").answers(0, "slide", 0, 0, 1);
        edge.leaving("hours 1 0 0 2 3").answers(0, "slide", 0, 1, 2);
        edge.leaving("hours 1 2 3 0 4").answers(0, "slide", 0, 3, 1);
    }

    private static void earlier() {
        Edge edge = promise.says("(k below 0: earlier)").on("hours 1 2 3 4 5");
        edge.leaving("hours 2 3 4 5 0").answers(0, "slide", 0, 1, -1);
        edge.leaving("hours 1 4 5 0 0").answers(0, "slide", 0, 3, -2);
        edge.leaving("hours 5 0 0 0 0").answers(0, "slide", 0, 4, -4);
    }

    private static void by0() {
        Edge edge = promise.says("comes k PLACES later: k is 0").on("hours 1 2 3");
        edge.answers(0, "slide", 0, 0, 0).answers(0, "slide", 0, 1, 0).answers(0, "slide", 0, 3, 0);
    }

    private static void fallsOff() {
        Edge edge = promise.says("what would come beyond the end falls off");
        Edge hours = edge.on("hours 1 2 3", "pay 7 8");
        hours.leaving("hours 0 0 0", "pay 7 8").answers(0, "slide", 0, 0, 3);
        hours.leaving("hours 1 0 0", "pay 7 8").answers(0, "slide", 0, 1, 2);
        hours.leaving("hours 1 2 0", "pay 7 8").answers(0, "slide", 0, 2, 1);
        hours.leaving("hours 0 0 1", "pay 7 8").answers(0, "slide", 0, 0, 2);
        edge.on("all 0 1").leaving("all - -").answers(0, "slide", 0, 0, 2);
    }

    private static void nobodyOr0() {
        Edge edge = promise.says("The k PLACES from i on are nobody, or 0, then");
        edge.on("all 0 1 2").leaving("all 0 - 1").answers(0, "slide", 0, 1, 1);
        edge.on("doctors 0 3 3").leaving("doctors - 0 3").answers(0, "slide", 0, 0, 1);
        edge.on("nurses 1 4 4").leaving("nurses - - 1").answers(0, "slide", 0, 0, 2);
        edge.on("hours 1 2 3").leaving("hours 1 0 2").answers(0, "slide", 0, 1, 1);
        edge.on("pay 1 2 3").leaving("pay 0 0 1").answers(0, "slide", 0, 0, 2);
    }

    private static void asManyAtTheEnd() {
        Edge edge = promise.says("(k below 0: as many at the end) are nobody, or 0, then");
        edge.on("all 0 1 2").leaving("all 1 2 -").answers(0, "slide", 0, 1, -1);
        edge.on("doctors 0 3 3").leaving("doctors 3 - -").answers(0, "slide", 0, 2, -2);
        edge.on("nurses 1 4 4").leaving("nurses 1 4 -").answers(0, "slide", 0, 2, -1);
        edge.on("hours 1 2 3").leaving("hours 3 0 0").answers(0, "slide", 0, 2, -2);
        edge.on("pay 1 2 3").leaving("pay 2 3 0").answers(0, "slide", 0, 1, -1);
    }

    private static void fromTheEndOn() {
        Edge edge = promise.says("What stands from PLACE i on: i is as many as there are PLACES");
        edge.on("hours 1 2 3").answers(0, "slide", 0, 3, 0);
        edge.on("hours 1 2 3").leaving("hours 1 2 0").answers(0, "slide", 0, 3, -1);
        edge.on("hours 1 2 3").leaving("hours 0 0 0").answers(0, "slide", 0, 3, -3);
        edge.on("all 0 1 2").leaving("all 0 - -").answers(0, "slide", 0, 3, -2);
    }

    private static void aRowOf0Places() {
        Edge edge = promise.says("of a hook's ROW: of 0 PLACES");
        for (String make : new String[] {"all", "hours", "pay"}) {
            edge.on(make).answers(0, "slide", 0, 0, 0).answers(3, "slide", 0, 0, 1).answers(3, "slide", 0, 0, -1)
                .answers(3, "slide", 0, 1, -1).answers(3, "slide", 0, 1, 0);
        }
    }

    private static void aRowOf40Places() {
        Edge edge = promise.says("of a hook's ROW: of 40 PLACES").on(Edge.upTo("hours", 1, 40));
        edge.leaving(Edge.upTo("hours 0", 1, 39)).answers(0, "slide", 0, 0, 1);
        edge.leaving(Edge.upTo("hours", 2, 40) + " 0").answers(0, "slide", 0, 1, -1);
        edge.leaving(Edge.full("hours", "0", 40)).answers(0, "slide", 0, 0, 40).answers(0, "slide", 0, 40, -40);
        edge.leaving(Edge.upTo("hours", 1, 20) + " 0".repeat(19) + " 21").answers(0, "slide", 0, 20, 19);
        edge.leaving(Edge.upTo("hours", 1, 39) + " 0").answers(0, "slide", 0, 39, 1).answers(0, "slide", 0, 40, -1);
        edge.leaving("hours 40" + " 0".repeat(39)).answers(0, "slide", 0, 39, -39);
        edge.answers(3, "slide", 0, 0, 41).answers(3, "slide", 0, 41, -1).answers(3, "slide", 0, 40, -41);
    }

    private static void missing() {
        promise.says("1 (a hook that is told holds NOTHING)").answers(1, "slide", 6, 0, 0).answers(1, "slide", 6, 0, 1);
    }

    private static void missingAheadOfThePlace() {
        promise.says("1; ahead of 3").answers(1, "slide", 6, -1, 0).answers(1, "slide", 6, 1, Edge.MAX);
    }

    private static void noRow() {
        promise.says("2: no ROW").answers(2, "slide", 5, 0, 0).answers(2, "slide", 5, 0, 1);
    }

    private static void noRowAheadOfThePlace() {
        promise.says("2: no ROW; ahead of 3").answers(2, "slide", 5, -1, 0).answers(2, "slide", 5, 0, -1);
    }

    private static void iBelow0() {
        Edge edge = promise.says("3: i is below 0");
        edge.answers(3, "slide", 3, -1, 0).answers(3, "slide", 3, -1, 1).answers(3, "slide", 3, -1, 2)
            .answers(3, "slide", 3, -3, 5).answers(3, "slide", 0, -1, 3).answers(3, "slide", 3, Edge.MIN, Edge.MAX);
    }

    private static void iIsMore() {
        Edge edge = promise.says("3: i is more than there are PLACES");
        edge.answers(3, "slide", 3, 5, 0).answers(3, "slide", 3, 5, -1).answers(3, "slide", 3, 5, -5)
            .answers(3, "slide", 1, 4, -2).answers(3, "slide", 3, 40, -38)
            .answers(3, "slide", 3, Edge.MAX, -Edge.MAX).answers(3, "slide", 3, Edge.MAX, 2 - Edge.MAX);
    }

    private static void togetherBelow0() {
        Edge edge = promise.says("3: i and k together are below 0");
        edge.answers(3, "slide", 3, 0, -1).answers(3, "slide", 3, 2, -3).answers(3, "slide", 3, 4, -5)
            .answers(3, "slide", 0, 1, -2).answers(3, "slide", 3, 0, Edge.MIN).answers(3, "slide", 3, 4, Edge.MIN);
    }

    private static void togetherMore() {
        Edge edge = promise.says("3: i and k together are more than there are PLACES");
        edge.answers(3, "slide", 3, 0, 5).answers(3, "slide", 3, 1, 4).answers(3, "slide", 3, 4, 1)
            .answers(3, "slide", 1, 3, 1).answers(3, "slide", 0, 2, 3).answers(3, "slide", 3, 0, 40);
    }

    private static void notWrapped() {
        Edge edge = promise.says("3: i and k together (not wrapped)");
        edge.answers(3, "slide", 3, 1, Edge.MAX).answers(3, "slide", 3, 4, Edge.MAX)
            .answers(3, "slide", 3, Edge.MAX, Edge.MAX).answers(3, "slide", 3, Edge.MIN, Edge.MIN)
            .answers(3, "slide", 3, Edge.MAX, 1);
    }

    private static void noSuchHook() {
        Edge edge = promise.says("IllegalArgumentException: no such hook");
        for (int hook : Edge.NO_HOOKS) {
            edge.illegal("slide", hook, 0, 0).illegal("slide", hook, 0, 1).illegal("slide", hook, -1, 0);
        }
        String[] wall = Edge.many("nothing", 8);
        wall[7] = "hours 1 2";
        String[] left = Edge.many("nothing", 8);
        left[7] = "hours 0 1";
        edge.on(wall).leaving(left).answers(0, "slide", 7, 0, 1);
    }
}
