/** Promise 11, pay, sentence by sentence. */
public final class Promise11PayTest {
    private static final Promise promise = new Promise("promise 11");
    private static final String[] TRIO = {"doctor", "nurse", "porter"};

    public static void main(String[] args) {
        eachGetsTheirs();
        theRates();
        asLongs();
        theLongThere();
        thePurseWraps();
        nobodyGetsNothing();
        whoStandsTwice();
        aRosterOf0Places();
        longerRows();
        allForty();
        somethingElseThanARoster();
        somethingElseThanHours();
        somethingElseThanPay();
        somethingElseAheadOfMissing();
        missing();
        missingAheadOfThePlace();
        hoursEndFirst();
        payEndsFirst();
        endsAtNobody();
        noSuchHook();
        promise.end();
    }

    private static Edge says(String sentence) {
        return promise.says(sentence).with(TRIO);
    }

    private static void eachGetsTheirs() {
        Edge edge = says("Whoever stands at a PLACE of hook roster's ROSTER gets into their PURSE");
        edge.on("all 0 1 2", "hours 10 20 30", "pay 1 2 3")
            .leavingStaff("doctor 31", "nurse 42", "porter 33").answers(0, "pay", 0, 1, 2);
        edge.on("pay 5", "hours 8", "doctors 0").leavingStaff("doctor 29", "nurse 0", "porter 0")
            .answers(0, "pay", 2, 1, 0);
        edge.on("nurses 1", "hours -8", "pay 5").leavingStaff("doctor 0", "nurse -11", "porter 0")
            .answers(0, "pay", 0, 1, 2);
    }

    private static void theRates() {
        Edge edge = says("their rate (DOCTORS 3, NURSES 2, PORTERS 1)").on("all 2 1 0", "hours 1 1 1", "pay 0 0 0");
        edge.leavingStaff("doctor 3", "nurse 2", "porter 1").answers(0, "pay", 0, 1, 2);
    }

    private static void asLongs() {
        Edge edge = says("times their rate (as longs)");
        edge.on("all 0 1", "hours " + Edge.MAX + " " + Edge.MIN, "pay 0 0")
            .leavingStaff("doctor 6442450941", "nurse -4294967296", "porter 0").answers(0, "pay", 0, 1, 2);
        edge.on("all 1 0 2", "hours " + Edge.MAX + " " + Edge.MIN + " " + Edge.MIN, "pay 1 0 0")
            .leavingStaff("doctor -6442450944", "nurse 4294967295", "porter -2147483648").answers(0, "pay", 0, 1, 2);
    }

    private static void theLongThere() {
        Edge edge = says("and the long there of hook pays' PAY");
        edge.on("all 0 1 2", "hours 0 0 0", "pay " + Long.MAX_VALUE + " " + Long.MIN_VALUE + " -1")
            .leavingStaff("doctor " + Long.MAX_VALUE, "nurse " + Long.MIN_VALUE, "porter -1")
            .answers(0, "pay", 0, 1, 2);
    }

    private static void thePurseWraps() {
        Edge edge = says("gets into their PURSE: longs wrap");
        edge.on("all 0", "hours 1", "pay " + Long.MAX_VALUE)
            .leavingStaff("doctor " + (Long.MIN_VALUE + 2), "nurse 0", "porter 0").answers(0, "pay", 0, 1, 2);
        edge.on("all 2 2", "hours 0 -1", "pay " + Long.MIN_VALUE + " 0")
            .leavingStaff("doctor 0", "nurse 0", "porter " + Long.MAX_VALUE).answers(0, "pay", 0, 1, 2);
    }

    private static void nobodyGetsNothing() {
        Edge edge = says("Whoever stands at a PLACE: nobody");
        edge.on("all - -", "hours 5 5", "pay 5 5").answers(0, "pay", 0, 1, 2);
        edge.on("all - 2", "hours 5 6", "pay 7 8").leavingStaff("doctor 0", "nurse 0", "porter 14")
            .answers(0, "pay", 0, 1, 2);
    }

    private static void whoStandsTwice() {
        Edge edge = says("Whoever stands at a PLACE, from the first on: at each PLACE again");
        edge.on("all 0 1 0", "hours 10 20 30", "pay 1 2 3").leavingStaff("doctor 124", "nurse 42", "porter 0")
            .answers(0, "pay", 0, 1, 2);
    }

    private static void aRosterOf0Places() {
        Edge edge = says("Whoever stands at a PLACE: of a ROSTER of 0");
        edge.on("all", "hours", "pay").answers(0, "pay", 0, 1, 2);
        edge.on("nurses", "hours 1", "pay 1").answers(0, "pay", 0, 1, 2);
    }

    private static void longerRows() {
        Edge edge = says("the int at that PLACE of hook hours' HOURS: HOURS and PAY that are longer");
        edge.on("all 2", "hours 1 2", "pay 3 4 5").leavingStaff("doctor 0", "nurse 0", "porter 4")
            .answers(0, "pay", 0, 1, 2);
    }

    private static void allForty() {
        Edge edge = says("from the first on: 40 PLACES");
        edge.on(Edge.full("all", "2", 40), Edge.full("hours", "1", 40), Edge.upTo("pay", 1, 40))
            .leavingStaff("doctor 0", "nurse 0", "porter 860").answers(0, "pay", 0, 1, 2);
    }

    private static void somethingElseThanARoster() {
        Edge edge = says("2: hook roster holds something else").on("all 0", "hours 1", "pay 1", "notice");
        edge.answers(2, "pay", 1, 1, 2).answers(2, "pay", 2, 1, 2).answers(2, "pay", 3, 1, 2);
    }

    private static void somethingElseThanHours() {
        Edge edge = says("2: hook hours holds something else")
            .on("all 0", "hours 1", "pay 1", "notice", "doctors 0", "nurses 1");
        edge.answers(2, "pay", 0, 0, 2).answers(2, "pay", 0, 2, 2).answers(2, "pay", 0, 3, 2)
            .answers(2, "pay", 0, 4, 2).answers(2, "pay", 0, 5, 2);
    }

    private static void somethingElseThanPay() {
        Edge edge = says("2: hook pays holds something else")
            .on("all 0", "hours 1", "pay 1", "notice", "doctors 0", "nurses 1");
        edge.answers(2, "pay", 0, 1, 0).answers(2, "pay", 0, 1, 1).answers(2, "pay", 0, 1, 3)
            .answers(2, "pay", 0, 1, 4).answers(2, "pay", 0, 1, 5);
    }

    private static void somethingElseAheadOfMissing() {
        Edge edge = says("2: something else that isn't NOTHING; ahead of 1").on("all 0", "hours 1", "pay 1", "notice");
        edge.answers(2, "pay", 3, 7, 7).answers(2, "pay", 7, 3, 7).answers(2, "pay", 7, 7, 3);
        edge.answers(2, "pay", 1, 7, 2).answers(2, "pay", 2, 1, 7).answers(2, "pay", 7, 0, 2)
            .answers(2, "pay", 0, 2, 7).answers(2, "pay", 7, 1, 1).answers(2, "pay", 0, 7, 0);
    }

    private static void missing() {
        Edge edge = says("1 (a hook that is told holds NOTHING)").on("all 0", "hours 1", "pay 1");
        edge.answers(1, "pay", 7, 1, 2).answers(1, "pay", 0, 7, 2).answers(1, "pay", 0, 1, 7)
            .answers(1, "pay", 7, 7, 2).answers(1, "pay", 7, 1, 7).answers(1, "pay", 0, 7, 7)
            .answers(1, "pay", 7, 7, 7);
    }

    private static void missingAheadOfThePlace() {
        Edge edge = says("1; ahead of 3");
        edge.on("all 0", "hours", "nothing").answers(1, "pay", 0, 1, 2);
        edge.on("all 0 1", "nothing", "pay").answers(1, "pay", 0, 1, 2);
        edge.on("all", "nothing", "pay").answers(1, "pay", 0, 1, 2);
    }

    private static void hoursEndFirst() {
        Edge edge = says("3: at the first PLACE of the ROSTER that the HOURS have not: "
            + "those ahead of it have got theirs");
        edge.on("all 0 1 2", "hours 10 20", "pay 1 2 3").leavingStaff("doctor 31", "nurse 42", "porter 0")
            .answers(3, "pay", 0, 1, 2);
        edge.on("all 0", "hours", "pay 1").answers(3, "pay", 0, 1, 2);
    }

    private static void payEndsFirst() {
        Edge edge = says("3: at the first PLACE of the ROSTER that the PAY have not: "
            + "those ahead of it have got theirs");
        edge.on("all 0 1 2", "hours 10 20 30", "pay 1").leavingStaff("doctor 31", "nurse 0", "porter 0")
            .answers(3, "pay", 0, 1, 2);
        edge.on("all 0", "hours 1", "pay").answers(3, "pay", 0, 1, 2);
    }

    private static void endsAtNobody() {
        Edge edge = says("3: at the first PLACE of the ROSTER (also with nobody)");
        edge.on("all 2 -", "hours 10", "pay 1 2").leavingStaff("doctor 0", "nurse 0", "porter 11")
            .answers(3, "pay", 0, 1, 2);
        edge.on("all 2 - 0", "hours 10 20", "pay 1").leavingStaff("doctor 0", "nurse 0", "porter 11")
            .answers(3, "pay", 0, 1, 2);
        edge.on("all -", "hours", "pay").answers(3, "pay", 0, 1, 2);
    }

    private static void noSuchHook() {
        Edge edge = says("IllegalArgumentException: no such hook").on("all 0", "hours 1", "pay 1", "notice");
        for (int hook : Edge.NO_HOOKS) {
            edge.illegal("pay", hook, 1, 2).illegal("pay", 0, hook, 2).illegal("pay", 0, 1, hook)
                .illegal("pay", hook, 3, 7).illegal("pay", 3, hook, 7).illegal("pay", 7, 3, hook)
                .illegal("pay", hook, hook, hook);
        }
    }
}
