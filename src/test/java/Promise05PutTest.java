/** Promise 5, put, sentence by sentence. */
public final class Promise05PutTest {
    private static final Promise promise = new Promise("promise 5");

    public static void main(String[] args) {
        theFirstAndTheLastPlace();
        nobody();
        missing();
        missingAheadOfThePlace();
        noRoster();
        noRosterAheadOfThePlace();
        noSuchPlace();
        placeAheadOfTaking();
        notTaken();
        noSuchHook();
        noSuchPerson();
        exceptionsAheadOfRefusals();
        promise.end();
    }

    private static void theFirstAndTheLastPlace() {
        Edge edge = promise.says("A PERSON comes to PLACE i of a hook's ROSTER");
        edge.on("all - - -").leaving("all 2 - -").answers(0, "put", 0, 0, 2);
        edge.on("all - 0 1").leaving("all - 0 4").answers(0, "put", 0, 2, 4);
        edge.on("doctors 0 -").leaving("doctors 0 3").answers(0, "put", 0, 1, 3);
        edge.on("nothing", "nurses - 1 1").leaving("nothing", "nurses - 4 1").answers(0, "put", 1, 1, 4);
        String[] wall = Edge.many("nothing", 8);
        wall[7] = Edge.full("doctors", "-", 40);
        String[] left = Edge.many("nothing", 8);
        left[7] = Edge.full("doctors", "-", 39) + " 0";
        edge.on(wall).leaving(left).answers(0, "put", 7, 39, 0);
        edge.on("all -").with(Edge.many("porter", 60)).leaving("all 59").answers(0, "put", 0, 0, 59);
    }

    private static void nobody() {
        Edge edge = promise.says("A PERSON (-1: nobody)");
        edge.on("all 0 2").leaving("all - 2").answers(0, "put", 0, 0, -1);
        edge.on("doctors 0 3").leaving("doctors 0 -").answers(0, "put", 0, 1, -1);
        edge.on("nurses 1").leaving("nurses -").answers(0, "put", 0, 0, -1);
        edge.on("all -").with().answers(0, "put", 0, 0, -1);
    }

    private static void missing() {
        promise.says("1 (a hook that is told holds NOTHING)").answers(1, "put", 6, 0, 0).answers(1, "put", 6, 0, -1);
    }

    private static void missingAheadOfThePlace() {
        promise.says("1; ahead of 3").answers(1, "put", 6, -1, 0).answers(1, "put", 6, Edge.MAX, -1);
    }

    private static void noRoster() {
        Edge edge = promise.says("2: it holds no ROSTER");
        for (int hook = 3; hook <= 5; hook++) {
            edge.answers(2, "put", hook, 0, 0).answers(2, "put", hook, 0, -1);
        }
    }

    private static void noRosterAheadOfThePlace() {
        Edge edge = promise.says("2: it holds no ROSTER; ahead of 3");
        for (int hook = 3; hook <= 5; hook++) {
            edge.answers(2, "put", hook, -1, 0).answers(2, "put", hook, 40, 0);
        }
    }

    private static void noSuchPlace() {
        Edge edge = promise.says("3: that has no such PLACE");
        for (int i : new int[] {-1, 4, 39, 40, Edge.MIN, Edge.MAX}) {
            edge.answers(3, "put", 0, i, 0).answers(3, "put", 0, i, -1);
            edge.answers(3, "put", 1, i, 0).answers(3, "put", 2, i, 1);
        }
        edge.answers(3, "put", 1, 3, 0).answers(3, "put", 2, 3, 1);
        edge.on("all").answers(3, "put", 0, 0, 0).answers(3, "put", 0, -1, -1);
        edge.on(Edge.full("all", "0", 40)).answers(3, "put", 0, 40, 0);
    }

    private static void placeAheadOfTaking() {
        Edge edge = promise.says("3: that has no such PLACE; ahead of 2: it doesn't TAKE them");
        edge.answers(3, "put", 1, 3, 1).answers(3, "put", 1, -1, 2).answers(3, "put", 2, 3, 0);
        edge.on("nurses").answers(3, "put", 0, 0, 0);
    }

    private static void notTaken() {
        Edge edge = promise.says("2: it doesn't TAKE them");
        edge.answers(2, "put", 1, 0, 1).answers(2, "put", 1, 1, 2).answers(2, "put", 1, 2, 4);
        edge.answers(2, "put", 2, 0, 0).answers(2, "put", 2, 1, 2).answers(2, "put", 2, 2, 3);
    }

    private static void noSuchHook() {
        Edge edge = promise.says("IllegalArgumentException: no such hook");
        for (int hook : Edge.NO_HOOKS) {
            edge.illegal("put", hook, 0, 0).illegal("put", hook, 0, -1);
        }
    }

    private static void noSuchPerson() {
        Edge edge = promise.says("NoSuchElementException: no such person");
        for (int person : new int[] {-2, 5, 59, 60, Edge.MIN, Edge.MAX}) {
            edge.noElement("put", 0, 0, person).noElement("put", 1, 0, person);
        }
        edge.on("all -").with().noElement("put", 0, 0, 0);
        edge.on("all 59").with(Edge.many("doctor", 60)).noElement("put", 0, 0, 60);
    }

    private static void exceptionsAheadOfRefusals() {
        Edge edge = promise.says("IllegalArgumentException, NoSuchElementException, then 1, 2, 3");
        edge.illegal("put", 8, 0, 5).illegal("put", -1, -1, -2);
        edge.noElement("put", 6, 0, 5).noElement("put", 3, 0, 5).noElement("put", 5, 0, -2).noElement("put", 0, 4, 5);
    }
}
