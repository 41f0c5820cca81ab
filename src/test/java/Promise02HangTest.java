/** Promise 2, hang, sentence by sentence. */
public final class Promise02HangTest {
    private static final Promise promise = new Promise("promise 2");
    private static final String[] MAKES = {"all", "doctors", "nurses", "hours", "pay"};

    public static void main(String[] args) {
        aRowOfEachMake();
        aRowOf0Places();
        aRowOf40Places();
        aNewRowIsAnother();
        aRowHungAgainIsEmpty();
        allHooksHoldRowsOfTheirOwn();
        aNewNotice();
        nothing();
        fewerThan0PlacesOfARow();
        fewerThan0CountForNothingElsewhere();
        noSuchHook();
        noSuchMake();
        moreThan40();
        exceptionsAheadOfTheSize();
        promise.end();
    }

    private static void aRowOfEachMake() {
        Edge edge = promise.says("a new ROW of MAKE 0 .. 4 with n PLACES (nobody, or 0)");
        for (int make = 0; make <= 4; make++) {
            String row = Edge.full(MAKES[make], make <= 2 ? "-" : "0", 3);
            edge.on().leaving(row).answers(0, "hang", 0, make, 3);
        }
    }

    private static void aRowOf0Places() {
        Edge edge = promise.says("with n PLACES: n is 0");
        for (int make = 0; make <= 4; make++) {
            edge.on("pay 1 2").leaving(MAKES[make]).answers(0, "hang", 0, make, 0);
        }
    }

    private static void aRowOf40Places() {
        Edge edge = promise.says("with n PLACES: n is 40");
        for (int make = 0; make <= 4; make++) {
            String row = Edge.full(MAKES[make], make <= 2 ? "-" : "0", 40);
            edge.on("hours 1").leaving(row).answers(0, "hang", 0, make, 40);
        }
    }

    private static void aNewRowIsAnother() {
        Edge edge = promise.says("A hook holds a new ROW: the old one stays on the other hooks");
        edge.on("hours 1 2", "as 0", "as 0").leaving("hours 0 0", "hours 1 2", "as 1").answers(0, "hang", 0, 3, 2);
        edge.on("hours 1 2", "as 0", "as 0").leaving("hours 1 2", "hours 0 0", "as 0").answers(0, "hang", 1, 3, 2);
        edge.on("all 0 1", "as 0").leaving("all 0 1", "nurses -").answers(0, "hang", 1, 2, 1);
    }

    /** Two new rows behind one another: what fell off the wall must not come back. */
    private static void aRowHungAgainIsEmpty() {
        String name = promise.told("PLACES (nobody, or 0): where full rows hung before") + " ";
        Subject x = new Subject();
        x.call("hire", 0);
        for (int times = 0; times < 16; times++) {
            int make = times % 5;
            promise.due.same(name + "hang", "0", x.call("hang", 0, make, 3));
            for (int i = 0; i < 3; i++) {
                promise.due.same(name + "at", make <= 2 ? "-1" : "0", x.call("at", 0, i));
                x.call(make <= 2 ? "put" : "note", 0, i, make <= 2 ? 0 : 9);
            }
        }
    }

    private static void allHooksHoldRowsOfTheirOwn() {
        Edge edge = promise.says("A hook holds a new ROW: when all eight hold one");
        String[] wall = new String[8];
        for (int hook = 0; hook <= 7; hook++) {
            wall[hook] = "pay " + hook;
        }
        for (int hook = 0; hook <= 7; hook++) {
            String[] left = wall.clone();
            left[hook] = "pay 0 0";
            edge.on(wall).leaving(left).answers(0, "hang", hook, 4, 2);
        }
    }

    private static void aNewNotice() {
        Edge edge = promise.says("a new NOTICE (5)");
        edge.on("hours 1").leaving("notice").answers(0, "hang", 0, 5, 0);
        edge.on("notice", "as 0").leaving("notice", "notice").answers(0, "hang", 1, 5, 40).answers(0, "hang", 0, 5, 1);
    }

    private static void nothing() {
        Edge edge = promise.says("NOTHING (6)");
        edge.on("hours 1", "as 0").leaving("nothing", "hours 1").answers(0, "hang", 0, 6, 0)
            .answers(0, "hang", 0, 6, 40);
        edge.on("nothing", "notice").leaving("nothing", "notice").answers(0, "hang", 0, 6, 0);
        edge.on("nothing", "notice").leaving("nothing", "nothing").answers(0, "hang", 1, 6, 1);
    }

    private static void fewerThan0PlacesOfARow() {
        Edge edge = promise.says("4: n is below 0 (of a ROW)");
        for (int make = 0; make <= 4; make++) {
            edge.answers(4, "hang", 3, make, -1).answers(4, "hang", 3, make, Edge.MIN)
                .answers(4, "hang", 6, make, -1).answers(4, "hang", 6, make, -41);
        }
    }

    private static void fewerThan0CountForNothingElsewhere() {
        Edge edge = promise.says("4: n is below 0 (with the others it counts for nothing then)");
        edge.on("pay 1").leaving("notice").answers(0, "hang", 0, 5, -1).answers(0, "hang", 0, 5, Edge.MIN);
        edge.on("pay 1").leaving("nothing").answers(0, "hang", 0, 6, -1).answers(0, "hang", 0, 6, Edge.MIN);
    }

    private static void noSuchHook() {
        Edge edge = promise.says("IllegalArgumentException: no such hook");
        for (int hook : Edge.NO_HOOKS) {
            edge.illegal("hang", hook, 0, 1).illegal("hang", hook, 5, 0).illegal("hang", hook, 6, 0);
        }
        edge.on("nothing").leaving("hours 0").answers(0, "hang", 0, 3, 1);
        edge.on(Edge.many("notice", 7)).leaving("notice", "notice", "notice", "notice", "notice", "notice", "notice",
            "hours 0").answers(0, "hang", 7, 3, 1);
    }

    private static void noSuchMake() {
        Edge edge = promise.says("IllegalArgumentException: no such MAKE");
        for (int make : new int[] {-1, 7, 8, Edge.MIN, Edge.MAX}) {
            edge.illegal("hang", 0, make, 1).illegal("hang", 6, make, 0);
        }
    }

    private static void moreThan40() {
        Edge edge = promise.says("IllegalArgumentException: n is above 40");
        for (int make = 0; make <= 6; make++) {
            edge.illegal("hang", 0, make, 41).illegal("hang", 5, make, Edge.MAX).illegal("hang", 6, make, 41);
        }
    }

    private static void exceptionsAheadOfTheSize() {
        Edge edge = promise.says("IllegalArgumentException is thrown ahead of 4");
        edge.illegal("hang", -1, 0, -1).illegal("hang", 8, 4, Edge.MIN);
        edge.illegal("hang", 0, -1, -1).illegal("hang", 0, 7, Edge.MIN);
    }
}
