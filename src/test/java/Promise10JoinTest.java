/** Promise 10, join, sentence by sentence. */
public final class Promise10JoinTest {
    private static final Promise promise = new Promise("promise 10");

    public static void main(String[] args) {
        bothAreCopied();
        theyFillIt();
        rowsOf0Places();
        oneRowTwice();
        aIsTo();
        bIsTo();
        aIsTooLong();
        bIsTooLong();
        aIsRefused();
        bIsRefused();
        toIsRefused();
        aHookWithoutARow();
        stopsInA();
        stopsInB();
        noSuchHook();
        promise.end();
    }

    private static void bothAreCopied() {
        Edge edge = promise.says("All of hook a's ROW is copied to hook to's from PLACE 0 on, and then "
            + "all of hook b's behind it");
        edge.on("hours 1 2", "hours 3", "hours 9 9 9 9").leaving("hours 1 2", "hours 3", "hours 1 2 3 9")
            .answers(0, "join", 0, 1, 2);
        edge.on("nurses 1", "doctors - 3", "all 2 2 2 2").leaving("nurses 1", "doctors - 3", "all 1 - 3 2")
            .answers(0, "join", 0, 1, 2);
    }

    private static void theyFillIt() {
        Edge edge = promise.says("All of hook a's ROW, and then all of hook b's: to's last PLACE");
        edge.on("pay 1 2", "pay 3", "pay 9 9 9").leaving("pay 1 2", "pay 3", "pay 1 2 3").answers(0, "join", 0, 1, 2);
        String a = Edge.upTo("hours", 1, 39);
        edge.on(a, "hours 7", Edge.full("hours", "0", 40)).leaving(a, "hours 7", a + " 7").answers(0, "join", 0, 1, 2);
    }

    private static void rowsOf0Places() {
        Edge edge = promise.says("All of hook a's ROW, and then all of hook b's: of 0 PLACES");
        Edge hours = edge.on("hours", "hours 3 4", "hours 9 9 9");
        hours.leaving("hours", "hours 3 4", "hours 3 4 9").answers(0, "join", 0, 1, 2).answers(0, "join", 1, 0, 2);
        hours.answers(0, "join", 0, 0, 2).answers(0, "join", 0, 0, 0);
        hours.answers(3, "join", 0, 1, 0).answers(3, "join", 1, 0, 0);
        edge.on("nurses", "doctors", "all").answers(0, "join", 0, 1, 2).answers(0, "join", 2, 1, 0);
        edge.on("all", "hours 1").answers(2, "join", 0, 0, 1);
    }

    private static void oneRowTwice() {
        Edge edge = promise.says("hook a's ROW and hook b's: the same");
        edge.on("pay 1 2", "as 0", "pay 9 9 9 9").leaving("pay 1 2", "as 0", "pay 1 2 1 2")
            .answers(0, "join", 0, 0, 2).answers(0, "join", 0, 1, 2).answers(0, "join", 1, 0, 2);
    }

    private static void aIsTo() {
        Edge edge = promise.says("both as by copy: a's ROW is to's");
        Edge hours = edge.on("hours 1 2", "as 0", "hours", "hours 5");
        hours.answers(0, "join", 0, 2, 0).answers(0, "join", 0, 2, 1);
        hours.answers(3, "join", 0, 3, 0).answers(3, "join", 0, 3, 1).answers(3, "join", 0, 0, 0);
    }

    private static void bIsTo() {
        Edge edge = promise.says("hook b's (as it is then): b's ROW is to's");
        Edge hours = edge.on("hours 1 2", "as 0", "hours", "hours 5");
        hours.answers(0, "join", 2, 0, 0).answers(0, "join", 2, 0, 1);
        hours.leaving("hours 5 2", "as 0", "hours", "hours 5").answers(3, "join", 3, 0, 0).answers(3, "join", 3, 0, 1);
    }

    private static void aIsTooLong() {
        Edge edge = promise.says("then, if that answers 0: a's is too long (3)");
        edge.on("hours 1 2", "hours 3", "hours 9").answers(3, "join", 0, 1, 2).answers(3, "join", 0, 7, 2);
        edge.on("hours 1", "hours", "hours").answers(3, "join", 0, 1, 2);
    }

    private static void bIsTooLong() {
        Edge edge = promise.says("what the last of these answers: b's is too long behind a's (3)");
        edge.on("hours 1 2", "hours 3 4", "hours 9 9 9").leaving("hours 1 2", "hours 3 4", "hours 1 2 9")
            .answers(3, "join", 0, 1, 2);
        edge.on("hours 1 2", "hours 3", "hours 9 9").leaving("hours 1 2", "hours 3", "hours 1 2")
            .answers(3, "join", 0, 1, 2);
        String forty = Edge.full("pay", "1", 40);
        edge.on("pay 2", forty, Edge.full("pay", "3", 40)).leaving("pay 2", forty, "pay 2" + " 3".repeat(39))
            .answers(3, "join", 0, 1, 2);
    }

    private static void aIsRefused() {
        Edge edge = promise.says("then, if that answers 0: a's is not ALIKE (2)");
        edge.on("pay 1", "hours 2", "hours 9 9").answers(2, "join", 0, 1, 2).answers(2, "join", 0, 7, 2);
        edge.on("all 0", "hours 2", "hours 9 9").answers(2, "join", 0, 1, 2);
        edge.on("hours", "all 0", "all 1 1").answers(2, "join", 0, 1, 2);
    }

    private static void bIsRefused() {
        Edge edge = promise.says("what the last of these answers: b's is not ALIKE (2)");
        edge.on("hours 1", "pay 2", "hours 9 9").leaving("hours 1", "pay 2", "hours 1 9").answers(2, "join", 0, 1, 2);
        edge.on("all 0", "pay", "doctors 3 3").leaving("all 0", "pay", "doctors 0 3").answers(2, "join", 0, 1, 2);
        edge.on("hours 1", "pay 2 3 4", "hours 9 9").leaving("hours 1", "pay 2 3 4", "hours 1 9")
            .answers(2, "join", 0, 1, 2);
    }

    private static void toIsRefused() {
        Edge edge = promise.says("both as by copy: to holds NOTHING (1), or no ROW (2)");
        edge.answers(1, "join", 0, 1, 6).answers(1, "join", 5, 5, 6).answers(1, "join", 6, 6, 6);
        edge.answers(2, "join", 0, 1, 5).answers(2, "join", 5, 6, 5);
    }

    private static void aHookWithoutARow() {
        Edge edge = promise.says("(Of a hook without a ROW no PLACES are copied.), as by copy: 1 or 2");
        edge.answers(1, "join", 6, 3, 3).answers(1, "join", 6, 5, 0).answers(1, "join", 6, 3, 5);
        edge.answers(2, "join", 5, 3, 3).answers(2, "join", 5, 6, 0);
        Edge hours = edge.on("hours 1", "notice", "nothing", "hours 9 9");
        hours.leaving("hours 1", "notice", "nothing", "hours 1 9").answers(2, "join", 0, 1, 3)
            .answers(1, "join", 0, 2, 3);
        Edge full = edge.on("hours 1", "notice", "nothing", "hours 9");
        full.leaving("hours 1", "notice", "nothing", "hours 1").answers(2, "join", 0, 1, 3).answers(1, "join", 0, 2, 3);
    }

    private static void stopsInA() {
        Edge edge = promise.says("both as by copy: a's first PERSON whom to's ROSTER doesn't TAKE (2)");
        edge.on("all 0 1 0", "doctors 3", "doctors - - - -").leaving("all 0 1 0", "doctors 3", "doctors 0 - - -")
            .answers(2, "join", 0, 1, 2);
        edge.on("all 2", "nurses 4", "nurses 1 1").answers(2, "join", 0, 1, 2);
        edge.on("all 1 0", "doctors", "doctors 3").answers(3, "join", 0, 1, 2);
    }

    private static void stopsInB() {
        Edge edge = promise.says("both as by copy: b's first PERSON whom to's ROSTER doesn't TAKE (2)");
        edge.on("all 0", "all - 1 0", "doctors 3 3 3 3").leaving("all 0", "all - 1 0", "doctors 0 - 3 3")
            .answers(2, "join", 0, 1, 2);
        edge.on("doctors -", "doctors 0", "nurses 1 1").leaving("doctors -", "doctors 0", "nurses - 1")
            .answers(2, "join", 0, 1, 2);
    }

    private static void noSuchHook() {
        Edge edge = promise.says("IllegalArgumentException: no such hook");
        for (int hook : Edge.NO_HOOKS) {
            edge.illegal("join", hook, 3, 3).illegal("join", 3, hook, 3).illegal("join", 3, 3, hook)
                .illegal("join", 6, hook, 3).illegal("join", 5, hook, 3).illegal("join", 5, 6, hook)
                .illegal("join", hook, 6, 6).illegal("join", hook, hook, hook);
        }
    }
}
