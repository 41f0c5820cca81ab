/** Promise 1, sentence by sentence. */
public final class Promise01NewObjectTest {
    private static final Promise promise = new Promise("promise 1");

    public static void main(String[] args) {
        theConstant();
        nobodyIsHired();
        allHooksHoldNothing();
        objectsAreApart();
        promise.end();
    }

    private static void theConstant() {
        promise.due.same(promise.told("NONE = -1"), "-1", Integer.toString(DutyRota.NONE));
    }

    private static void nobodyIsHired() {
        Edge edge = promise.says("Nobody is hired").on().with();
        edge.answers(0, "count").noElement("person", 0, 0).noElement("put", 0, 0, 0);
    }

    private static void allHooksHoldNothing() {
        Edge edge = promise.says("all hooks hold NOTHING").on().with();
        for (int hook = 0; hook <= 7; hook++) {
            edge.answers(6, "look", hook, 0).answers(-1, "look", hook, 1).answers(-1, "look", hook, 2)
                .answers(1, "put", hook, 0, -1).noElement("at", hook, 0);
        }
    }

    private static void objectsAreApart() {
        String name = promise.told("Nobody is hired, all hooks hold NOTHING") + " beside another object: ";
        Subject fresh = new Subject();
        Subject used = new Subject();
        used.call("hire", 2);
        used.call("hang", 3, 3, 1);
        used.call("note", 3, 0, 7);
        promise.due.same(name + "count()", "0", fresh.call("count"));
        promise.due.same(name + "look(3, 0)", "6", fresh.call("look", 3, 0));
        Subject newer = new Subject();
        promise.due.same(name + "its newer count()", "0", newer.call("count"));
        promise.due.same(name + "the other's count()", "1", used.call("count"));
        promise.due.same(name + "the other's at(3, 0)", "7", used.call("at", 3, 0));
    }
}
