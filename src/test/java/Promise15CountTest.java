/** Promise 15, count, sentence by sentence. */
public final class Promise15CountTest {
    private static final Promise promise = new Promise("promise 15");

    public static void main(String[] args) {
        howManyAreHired();
        refusedAreNotHired();
        sixtyAtMost();
        promise.end();
    }

    private static void howManyAreHired() {
        Edge edge = promise.says("How many are hired");
        edge.answers(5, "count");
        edge.on().with().answers(0, "count");
        edge.on().with("porter").answers(1, "count");
        edge.on().with(Edge.many("nurse", 59)).answers(59, "count");
        edge.on().with(Edge.many("nurse", 60)).answers(60, "count");
    }

    private static void refusedAreNotHired() {
        String name = promise.told("How many are hired: not one of no kind");
        Subject x = new Subject();
        x.call("hire", 3);
        x.call("hire", -1);
        promise.due.same(name, "0", x.call("count"));
        x.call("hire", 2);
        x.call("hire", 3);
        promise.due.same(name, "1", x.call("count"));
    }

    private static void sixtyAtMost() {
        String name = promise.told("How many are hired: 60 at the most");
        Subject x = new Subject();
        for (int hired = 0; hired < 70; hired++) {
            promise.due.same(name, Integer.toString(Math.min(hired, 60)), x.call("count"));
            x.call("hire", hired % 3);
        }
    }
}
