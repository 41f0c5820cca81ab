/** Promise 4, hire, sentence by sentence. */
public final class Promise04HireTest {
    private static final Promise promise = new Promise("promise 4");
    private static final String[] KINDS = {"doctor", "nurse", "porter"};

    public static void main(String[] args) {
        theirNumber();
        theSixtieth();
        noSuchKind();
        thereAre60();
        promise.end();
    }

    private static void theirNumber() {
        Edge edge = promise.says("One of a kind is hired: their number").on("all -");
        for (int kind = 0; kind <= 2; kind++) {
            edge.with().leavingStaff(KINDS[kind] + " 0").answers(0, "hire", kind);
            edge.with("porter", "nurse").leavingStaff("porter 0", "nurse 0", KINDS[kind] + " 0")
                .answers(2, "hire", kind);
        }
    }

    private static void theSixtieth() {
        Edge edge = promise.says("One of a kind is hired: the 60th").on();
        String[] left = Edge.many("doctor 0", 60);
        for (int kind = 0; kind <= 2; kind++) {
            left[59] = KINDS[kind] + " 0";
            edge.with(Edge.many("doctor", 59)).leavingStaff(left).answers(59, "hire", kind);
        }
    }

    private static void noSuchKind() {
        Edge edge = promise.says("NONE: no such kind");
        for (int kind : new int[] {-1, 3, Edge.MIN, Edge.MAX}) {
            edge.answers(-1, "hire", kind);
            edge.on().with().answers(-1, "hire", kind);
            edge.on().with(Edge.many("nurse", 60)).answers(-1, "hire", kind);
        }
    }

    private static void thereAre60() {
        Edge edge = promise.says("NONE: there are 60").on("all 59").with(Edge.many("porter", 60));
        edge.answers(-1, "hire", 0).answers(-1, "hire", 1).answers(-1, "hire", 2);
    }
}
