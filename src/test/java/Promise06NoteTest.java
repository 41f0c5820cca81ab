/** Promise 6, note, sentence by sentence. */
public final class Promise06NoteTest {
    private static final Promise promise = new Promise("promise 6");
    private static final long HALF = 1L << 31;

    public static void main(String[] args) {
        theFirstAndTheLastPlace();
        theLowest32Bits();
        payKeepsAll();
        missing();
        missingAheadOfThePlace();
        neither();
        neitherAheadOfThePlace();
        noSuchPlace();
        noSuchHook();
        promise.end();
    }

    private static void theFirstAndTheLastPlace() {
        Edge edge = promise.says("PLACE i of a hook's HOURS becomes .., of its PAY v");
        edge.on("hours 1 2 3").leaving("hours 9 2 3").answers(0, "note", 0, 0, 9);
        edge.on("hours 1 2 3").leaving("hours 1 2 9").answers(0, "note", 0, 2, 9);
        edge.on("nothing", "pay 1 2").leaving("nothing", "pay 9 2").answers(0, "note", 1, 0, 9);
        edge.on("pay 1 2").leaving("pay 1 9").answers(0, "note", 0, 1, 9);
        edge.on("pay 1 2").leaving("pay 1 0").answers(0, "note", 0, 1, 0);
        String[] wall = Edge.many("nothing", 8);
        wall[7] = Edge.full("pay", "1", 40);
        String[] left = Edge.many("nothing", 8);
        left[7] = Edge.full("pay", "1", 39) + " 5";
        edge.on(wall).leaving(left).answers(0, "note", 7, 39, 5);
    }

    private static void theLowest32Bits() {
        Edge edge = promise.says("HOURS becomes the lowest 32 bits of v").on("hours 5 6");
        long[] values = {HALF - 1, HALF, -HALF, -HALF - 1, 2 * HALF - 1, 2 * HALF, 2 * HALF + 7, Long.MAX_VALUE,
            Long.MIN_VALUE, -1};
        int[] bits = {Edge.MAX, Edge.MIN, Edge.MIN, Edge.MAX, -1, 0, 7, -1, 0, -1};
        for (int v = 0; v < values.length; v++) {
            edge.leaving("hours " + bits[v] + " 6").answers(0, "note", 0, 0, values[v]);
        }
    }

    private static void payKeepsAll() {
        Edge edge = promise.says("of its PAY v").on("pay 5 6");
        for (long v : new long[] {HALF, -HALF - 1, 2 * HALF, Long.MAX_VALUE, Long.MIN_VALUE, -1}) {
            edge.leaving("pay 5 " + v).answers(0, "note", 0, 1, v);
        }
    }

    private static void missing() {
        promise.says("1 (a hook that is told holds NOTHING)").answers(1, "note", 6, 0, 1);
    }

    private static void missingAheadOfThePlace() {
        promise.says("1; ahead of 3").answers(1, "note", 6, -1, 1).answers(1, "note", 6, Edge.MAX, 1);
    }

    private static void neither() {
        Edge edge = promise.says("2: it holds neither");
        edge.answers(2, "note", 0, 0, 1).answers(2, "note", 1, 0, 1).answers(2, "note", 2, 0, 1)
            .answers(2, "note", 5, 0, 1);
    }

    private static void neitherAheadOfThePlace() {
        Edge edge = promise.says("2: it holds neither; ahead of 3");
        edge.answers(2, "note", 0, 4, 1).answers(2, "note", 1, -1, 1).answers(2, "note", 2, 40, 1)
            .answers(2, "note", 5, -1, 1);
    }

    private static void noSuchPlace() {
        Edge edge = promise.says("3 (PLACE)");
        for (int i : new int[] {-1, 4, 39, 40, Edge.MIN, Edge.MAX}) {
            edge.answers(3, "note", 3, i, 1).answers(3, "note", 4, i, 1);
        }
        edge.on("hours", "pay").answers(3, "note", 0, 0, 1).answers(3, "note", 1, 0, 1);
        edge.on(Edge.full("hours", "1", 40)).answers(3, "note", 0, 40, 1);
    }

    private static void noSuchHook() {
        Edge edge = promise.says("IllegalArgumentException: no such hook");
        for (int hook : Edge.NO_HOOKS) {
            edge.illegal("note", hook, 0, 1).illegal("note", hook, -1, 1);
        }
    }
}
