/** Promise 3, share, sentence by sentence. */
public final class Promise03ShareTest {
    private static final Promise promise = new Promise("promise 3");
    private static final String[] MAKES = {"all 0", "doctors 0", "nurses 1", "hours 7", "pay 7", "notice", "nothing"};

    public static void main(String[] args) {
        ofEachMake();
        ontoItself();
        whatItHeldBefore();
        nothing();
        theFirstAndTheLastHook();
        noSuchHook();
        promise.end();
    }

    private static void ofEachMake() {
        Edge edge = promise.says("Hook to holds what hook from holds: its MAKE");
        for (int make = 0; make <= 5; make++) {
            edge.on(MAKES[make], "hours 1 2").leaving(MAKES[make], "as 0").answers(make, "share", 0, 1);
            edge.on("notice", MAKES[make]).leaving(MAKES[make], "as 0").answers(make, "share", 1, 0);
            edge.on("nothing", MAKES[make]).leaving("nothing", MAKES[make], "as 1").answers(make, "share", 1, 2);
        }
    }

    private static void ontoItself() {
        Edge edge = promise.says("Hook to holds what hook from holds: they are one hook, or hold the same");
        for (int make = 0; make <= 6; make++) {
            edge.on(MAKES[make]).answers(make, "share", 0, 0);
        }
        edge.on("pay 1", "as 0").answers(4, "share", 1, 0).answers(4, "share", 0, 1);
    }

    private static void whatItHeldBefore() {
        Edge edge = promise.says("Hook to holds what hook from holds: what it held stays on the other hooks");
        edge.on("pay 1", "as 0", "hours 2").leaving("hours 2", "pay 1", "as 0").answers(3, "share", 2, 0);
    }

    private static void nothing() {
        Edge edge = promise.says("Hook to holds what hook from holds: NOTHING");
        edge.on("pay 1", "as 0").leaving("nothing", "pay 1").answers(6, "share", 7, 0);
        edge.on("notice").leaving("nothing").answers(6, "share", 1, 0);
        edge.on("nothing").answers(6, "share", 0, 7);
    }

    private static void theFirstAndTheLastHook() {
        Edge edge = promise.says("Hook to holds what hook from holds: hooks 0 and 7");
        edge.on("hours 5").leaving("hours 5", "nothing", "nothing", "nothing", "nothing", "nothing", "nothing", "as 0")
            .answers(3, "share", 0, 7);
        String[] wall = Edge.many("nothing", 8);
        wall[7] = "pay 5";
        String[] left = Edge.many("nothing", 8);
        left[0] = "pay 5";
        left[7] = "as 0";
        edge.on(wall).leaving(left).answers(4, "share", 7, 0);
    }

    private static void noSuchHook() {
        Edge edge = promise.says("IllegalArgumentException: no such hook");
        for (int hook : Edge.NO_HOOKS) {
            edge.illegal("share", hook, 0).illegal("share", 0, hook).illegal("share", hook, hook)
                .illegal("share", 6, hook).illegal("share", hook, 6);
        }
    }
}
