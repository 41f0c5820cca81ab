/** Promise 13, at, sentence by sentence. */
public final class Promise13AtTest {
    private static final Promise promise = new Promise("promise 13");

    public static void main(String[] args) {
        thePersonsNumber();
        nobody();
        theInt();
        theLong();
        noRow();
        noSuchPlace();
        noSuchHook();
        noSuchHookAheadOfThePlace();
        promise.end();
    }

    private static void thePersonsNumber() {
        Edge edge = promise.says("At PLACE i of a hook's ROW: the PERSON's number");
        edge.answers(0, "at", 0, 0).answers(2, "at", 0, 2).answers(3, "at", 1, 2).answers(1, "at", 2, 0);
        edge.on("all 59").with(Edge.many("nurse", 60)).answers(59, "at", 0, 0);
    }

    private static void nobody() {
        promise.says("(NONE: nobody)").answers(-1, "at", 0, 3).answers(-1, "at", 1, 1).answers(-1, "at", 2, 2);
    }

    private static void theInt() {
        Edge edge = promise.says("or the int").on("hours " + Edge.MIN + " -1 0 " + Edge.MAX);
        edge.answers(Edge.MIN, "at", 0, 0).answers(-1, "at", 0, 1).answers(0, "at", 0, 2).answers(Edge.MAX, "at", 0, 3);
    }

    private static void theLong() {
        Edge edge = promise.says("or the long").on("pay " + Long.MIN_VALUE + " -1 0 " + Long.MAX_VALUE);
        edge.answers(Long.MIN_VALUE, "at", 0, 0).answers(-1, "at", 0, 1).answers(0, "at", 0, 2)
            .answers(Long.MAX_VALUE, "at", 0, 3);
    }

    private static void noRow() {
        Edge edge = promise.says("NoSuchElementException: no ROW");
        for (int i : new int[] {-1, 0, 1, 39}) {
            edge.noElement("at", 5, i).noElement("at", 6, i);
        }
    }

    private static void noSuchPlace() {
        Edge edge = promise.says("NoSuchElementException: no such PLACE");
        for (int i : new int[] {-1, 4, 39, 40, Edge.MIN, Edge.MAX}) {
            for (int hook = 0; hook <= 4; hook++) {
                edge.noElement("at", hook, i);
            }
        }
        edge.noElement("at", 1, 3).noElement("at", 2, 3);
        edge.on("all", "hours").noElement("at", 0, 0).noElement("at", 1, 0);
        edge.on(Edge.upTo("pay", 1, 40)).answers(40, "at", 0, 39).noElement("at", 0, 40);
    }

    private static void noSuchHook() {
        Edge edge = promise.says("IllegalArgumentException: no such hook");
        for (int hook : Edge.NO_HOOKS) {
            edge.illegal("at", hook, 0).illegal("at", hook, 3);
        }
        edge.answers(4, "at", 7, 3);
    }

    private static void noSuchHookAheadOfThePlace() {
        Edge edge = promise.says("IllegalArgumentException ahead of NoSuchElementException");
        for (int hook : Edge.NO_HOOKS) {
            edge.illegal("at", hook, -1).illegal("at", hook, 40);
        }
    }
}
