/** Promise 14, person, sentence by sentence. */
public final class Promise14PersonTest {
    private static final Promise promise = new Promise("promise 14");

    public static void main(String[] args) {
        theKind();
        thePurse();
        whereTheyStand();
        ofTheWallAlone();
        aRowOnSeveralHooks();
        numbersAreNoPersons();
        noneForOthers();
        noSuchPerson();
        promise.end();
    }

    private static void theKind() {
        Edge edge = promise.says("what 0: the kind");
        edge.answers(0, "person", 0, 0).answers(1, "person", 1, 0).answers(2, "person", 2, 0).answers(0, "person", 3, 0)
            .answers(1, "person", 4, 0);
    }

    private static void thePurse() {
        Edge edge = promise.says("1: the PURSE").on("all 0 1", "hours 1 0", "pay " + (Long.MAX_VALUE - 3) + " -1");
        edge.with("doctor", "nurse").leavingStaff("doctor " + Long.MAX_VALUE, "nurse -1").answers(0, "pay", 0, 1, 2)
            .answers(0, "pay", 0, 1, 2);
        edge.with("doctor", "nurse").answers(0, "person", 0, 1).answers(0, "person", 1, 1);
    }

    private static void whereTheyStand() {
        Edge edge = promise.says("2: at how many PLACES of the wall they stand");
        edge.on("all 0 1 0 -", "doctors 0 3", "nurses 1", "all 0").answers(4, "person", 0, 2)
            .answers(2, "person", 1, 2).answers(0, "person", 2, 2).answers(1, "person", 3, 2)
            .answers(0, "person", 4, 2);
        edge.on(Edge.full("all", "2", 40), "all 2").answers(41, "person", 2, 2).answers(0, "person", 0, 2);
        edge.on().answers(0, "person", 0, 2);
    }

    private static void ofTheWallAlone() {
        String name = promise.told("2: PLACES of the wall: not of a ROW that hangs no more") + " ";
        Subject x = new Subject();
        x.call("hire", 0);
        x.call("hang", 0, 1, 2);
        x.call("put", 0, 1, 0);
        x.call("share", 0, 7);
        promise.due.same(name + "on two hooks", "1", x.call("person", 0, 2));
        x.call("hang", 0, 6, 0);
        promise.due.same(name + "on the other hook", "1", x.call("person", 0, 2));
        x.call("share", 1, 7);
        promise.due.same(name + "on none", "0", x.call("person", 0, 2));
        x.call("hang", 7, 1, 2);
        promise.due.same(name + "a new ROW", "0", x.call("person", 0, 2));
    }

    private static void aRowOnSeveralHooks() {
        Edge edge = promise.says("2: (a ROW on several hooks counts once)");
        edge.on("all 0 1 0", "as 0", "nothing", "as 0").answers(2, "person", 0, 2).answers(1, "person", 1, 2);
        edge.on("notice", "nurses 4", "as 0", "as 1", "as 1", "as 1", "as 1", "as 1").answers(1, "person", 4, 2);
    }

    private static void numbersAreNoPersons() {
        Edge edge = promise.says("2: PLACES where they stand: not those of HOURS and PAY");
        edge.on("hours 0 1 2", "pay 0 1 2", "all 1").answers(0, "person", 0, 2).answers(1, "person", 1, 2)
            .answers(0, "person", 2, 2);
    }

    private static void noneForOthers() {
        Edge edge = promise.says("NONE for others");
        for (int what : new int[] {-1, 3, Edge.MIN, Edge.MAX}) {
            edge.answers(-1, "person", 0, what).answers(-1, "person", 4, what);
        }
    }

    private static void noSuchPerson() {
        Edge edge = promise.says("NoSuchElementException: no such person");
        for (int p : new int[] {-1, -2, 5, 59, 60, Edge.MIN, Edge.MAX}) {
            edge.noElement("person", p, 0).noElement("person", p, 1).noElement("person", p, 2)
                .noElement("person", p, 3).noElement("person", p, -1);
        }
        edge.with(Edge.many("doctor", 60)).on().answers(0, "person", 59, 0).noElement("person", 60, 0);
    }
}
