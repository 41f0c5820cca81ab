/** Promise 7, copy, sentence by sentence. */
public final class Promise07CopyTest {
    private static final Promise promise = new Promise("promise 7");

    public static void main(String[] args) {
        theFirstAndTheLastPlaces();
        allForty();
        noPlaces();
        theSameHook();
        theSameRowOnTwoHooks();
        missing();
        missingAheadOfKindAndPlace();
        noRow();
        notAlike();
        kindAheadOfPlace();
        iBelow0();
        jBelow0();
        nBelow0();
        iAndNAreMore();
        jAndNAreMore();
        notWrapped();
        stopsAtTheFirstNotTaken();
        nobodyIsTaken();
        placeAheadOfTaking();
        noSuchHook();
        promise.end();
    }

    private static void theFirstAndTheLastPlaces() {
        Edge edge = promise.says("The n PLACES from i on of hook from's ROW come to those from j on of hook to's");
        Edge hours = edge.on("hours 1 2 3 4", "hours 5 6 7");
        hours.leaving("hours 1 2 3 4", "hours 1 2 7").answers(0, "copy", 0, 0, 1, 0, 2);
        hours.leaving("hours 1 2 3 4", "hours 5 3 4").answers(0, "copy", 0, 2, 1, 1, 2);
        hours.leaving("hours 1 2 3 4", "hours 2 3 4").answers(0, "copy", 0, 1, 1, 0, 3);
        hours.leaving("hours 5 6 7 4", "hours 5 6 7").answers(0, "copy", 1, 0, 0, 0, 3);
        hours.leaving("hours 1 5 6 7", "hours 5 6 7").answers(0, "copy", 1, 0, 0, 1, 3);
        String least = "pay " + Long.MIN_VALUE;
        edge.on(least, "pay 3").leaving(least, least).answers(0, "copy", 0, 0, 1, 0, 1);
        edge.on("nurses 1 - 4", "all 0 2 -").leaving("nurses 1 - 4", "all 1 - 4").answers(0, "copy", 0, 0, 1, 0, 3);
    }

    private static void allForty() {
        Edge edge = promise.says("The n PLACES from i on: all 40");
        String from = Edge.upTo("hours", 1, 40);
        edge.on(from, Edge.full("hours", "0", 40)).leaving(from, from).answers(0, "copy", 0, 0, 1, 0, 40);
        edge.on(from, Edge.full("hours", "0", 40)).leaving(from, Edge.full("hours", "0", 39) + " 40")
            .answers(0, "copy", 0, 39, 1, 39, 1);
    }

    private static void noPlaces() {
        Edge edge = promise.says("The n PLACES from i on: n is 0, up to the end of both");
        Edge hours = edge.on("hours 1 2", "hours 3");
        hours.answers(0, "copy", 0, 0, 1, 0, 0).answers(0, "copy", 0, 2, 1, 1, 0).answers(0, "copy", 1, 1, 0, 2, 0);
        edge.on("hours", "hours 3").answers(0, "copy", 0, 0, 1, 1, 0).answers(0, "copy", 1, 1, 0, 0, 0);
        edge.on(Edge.full("pay", "1", 40)).answers(0, "copy", 0, 40, 0, 40, 0);
        edge.on("nurses 1", "doctors 0").answers(0, "copy", 0, 0, 1, 0, 0);
    }

    private static void theSameHook() {
        Edge edge = promise.says("(it may be the same), as if all were taken first").on("hours 1 2 3 4 5");
        edge.leaving("hours 1 1 2 3 4").answers(0, "copy", 0, 0, 0, 1, 4);
        edge.leaving("hours 2 3 4 5 5").answers(0, "copy", 0, 1, 0, 0, 4);
        edge.leaving("hours 1 2 1 2 3").answers(0, "copy", 0, 0, 0, 2, 3);
        edge.leaving("hours 3 4 5 4 5").answers(0, "copy", 0, 2, 0, 0, 3);
        edge.answers(0, "copy", 0, 0, 0, 0, 5);
        edge.on("doctors 0 3 -").leaving("doctors 0 0 3").answers(0, "copy", 0, 0, 0, 1, 2);
        edge.on(Edge.upTo("pay", 1, 40)).leaving(Edge.upTo("pay 1", 1, 39)).answers(0, "copy", 0, 0, 0, 1, 39);
    }

    private static void theSameRowOnTwoHooks() {
        Edge edge = promise.says("as if all were taken first: of one ROW on two hooks").on("pay 1 2 3 4", "as 0");
        edge.leaving("pay 1 1 2 3", "as 0").answers(0, "copy", 0, 0, 1, 1, 3).answers(0, "copy", 1, 0, 0, 1, 3);
        edge.leaving("pay 2 3 4 4", "as 0").answers(0, "copy", 0, 1, 1, 0, 3).answers(0, "copy", 1, 1, 0, 0, 3);
    }

    private static void missing() {
        Edge edge = promise.says("1 (a hook that is told holds NOTHING)");
        for (int hook = 0; hook <= 4; hook++) {
            edge.answers(1, "copy", 6, 0, hook, 0, 0).answers(1, "copy", hook, 0, 6, 0, 1);
        }
        edge.answers(1, "copy", 6, 0, 6, 0, 0);
    }

    private static void missingAheadOfKindAndPlace() {
        Edge edge = promise.says("1; ahead of 2 and 3");
        edge.answers(1, "copy", 6, 0, 5, 0, 0).answers(1, "copy", 5, 0, 6, 0, 0);
        edge.answers(1, "copy", 6, -1, 3, 0, 0).answers(1, "copy", 3, 0, 6, 99, 0).answers(1, "copy", 3, 0, 6, 0, -1);
    }

    private static void noRow() {
        Edge edge = promise.says("2: one is no ROW");
        for (int hook = 0; hook <= 5; hook++) {
            edge.answers(2, "copy", 5, 0, hook, 0, 0).answers(2, "copy", hook, 0, 5, 0, 0);
        }
        edge.on("notice", "notice", "as 0").answers(2, "copy", 0, 0, 1, 0, 0).answers(2, "copy", 0, 0, 2, 0, 0);
    }

    private static void notAlike() {
        Edge edge = promise.says("2: they are not ALIKE");
        for (int roster = 0; roster <= 2; roster++) {
            for (int other = 3; other <= 4; other++) {
                edge.answers(2, "copy", roster, 0, other, 0, 1).answers(2, "copy", other, 0, roster, 0, 1);
                edge.answers(2, "copy", roster, 0, other, 0, 0).answers(2, "copy", other, 0, roster, 0, 0);
            }
        }
        edge.answers(2, "copy", 3, 0, 4, 0, 1).answers(2, "copy", 4, 0, 3, 0, 1).answers(2, "copy", 4, 0, 3, 0, 0);
    }

    private static void kindAheadOfPlace() {
        Edge edge = promise.says("2: one is no ROW, or they are not ALIKE; ahead of 3");
        edge.answers(2, "copy", 5, -1, 3, 0, 0).answers(2, "copy", 3, 0, 5, 0, -1).answers(2, "copy", 3, 0, 5, 9, 9);
        edge.answers(2, "copy", 3, -1, 4, 0, 0).answers(2, "copy", 0, 0, 4, -1, 0).answers(2, "copy", 4, 0, 2, 0, -1)
            .answers(2, "copy", 3, 0, 4, 4, 4);
    }

    private static void iBelow0() {
        Edge edge = promise.says("3: i is below 0");
        edge.answers(3, "copy", 3, -1, 7, 0, 0).answers(3, "copy", 3, -1, 7, 0, 1).answers(3, "copy", 4, -1, 4, 0, 2)
            .answers(3, "copy", 0, -1, 1, 0, 1).answers(3, "copy", 3, Edge.MIN, 7, 0, 0);
    }

    private static void jBelow0() {
        Edge edge = promise.says("3: j is below 0");
        edge.answers(3, "copy", 3, 0, 7, -1, 0).answers(3, "copy", 3, 0, 7, -1, 1).answers(3, "copy", 4, 0, 4, -1, 2)
            .answers(3, "copy", 0, 0, 1, -1, 1).answers(3, "copy", 3, 0, 7, Edge.MIN, 0);
    }

    private static void nBelow0() {
        Edge edge = promise.says("3: n is below 0");
        edge.answers(3, "copy", 3, 0, 7, 0, -1).answers(3, "copy", 3, 2, 7, 2, -1).answers(3, "copy", 4, 4, 4, 4, -4)
            .answers(3, "copy", 0, 1, 1, 1, -1).answers(3, "copy", 3, 0, 7, 0, Edge.MIN)
            .answers(3, "copy", 3, 5, 7, 5, -1);
    }

    private static void iAndNAreMore() {
        Edge edge = promise.says("3: i and n are together more than there are");
        Edge hours = edge.on("hours 1 2 3", "hours 4 5 6 7 8 9");
        hours.answers(3, "copy", 0, 0, 1, 0, 4).answers(3, "copy", 0, 1, 1, 0, 3).answers(3, "copy", 0, 3, 1, 0, 1)
            .answers(3, "copy", 0, 4, 1, 0, 0).answers(3, "copy", 0, 2, 0, 0, 2);
        edge.on("hours", "hours 1").answers(3, "copy", 0, 0, 1, 0, 1).answers(3, "copy", 0, 1, 1, 0, 0);
        edge.on(Edge.full("pay", "1", 40)).answers(3, "copy", 0, 1, 0, 0, 40).answers(3, "copy", 0, 40, 0, 0, 1)
            .answers(3, "copy", 0, 41, 0, 0, 0);
    }

    private static void jAndNAreMore() {
        Edge edge = promise.says("3: j and n are together more than there are");
        Edge hours = edge.on("hours 4 5 6 7 8 9", "hours 1 2 3");
        hours.answers(3, "copy", 0, 0, 1, 0, 4).answers(3, "copy", 0, 0, 1, 1, 3).answers(3, "copy", 0, 0, 1, 3, 1)
            .answers(3, "copy", 0, 0, 1, 4, 0).answers(3, "copy", 1, 0, 1, 2, 2);
        edge.on("hours 1", "hours").answers(3, "copy", 0, 0, 1, 0, 1).answers(3, "copy", 0, 0, 1, 1, 0);
        edge.on(Edge.full("pay", "1", 40)).answers(3, "copy", 0, 0, 0, 1, 40).answers(3, "copy", 0, 0, 0, 40, 1)
            .answers(3, "copy", 0, 0, 0, 41, 0);
    }

    private static void notWrapped() {
        Edge edge = promise.says("3: together (not wrapped) more than there are");
        edge.answers(3, "copy", 3, Edge.MAX, 7, 0, 1).answers(3, "copy", 3, Edge.MAX, 7, 0, Edge.MAX)
            .answers(3, "copy", 3, 1, 7, 0, Edge.MAX).answers(3, "copy", 3, 0, 7, 1, Edge.MAX)
            .answers(3, "copy", 3, 0, 7, Edge.MAX, 1).answers(3, "copy", 3, Edge.MAX, 7, Edge.MAX, Edge.MAX)
            .answers(3, "copy", 3, 2, 7, Edge.MAX, 2).answers(3, "copy", 3, Edge.MAX, 7, 2, 2);
    }

    private static void stopsAtTheFirstNotTaken() {
        Edge edge = promise.says("2: at the first PERSON whom to's ROSTER doesn't TAKE: those ahead of it have come");
        Edge doctors = edge.on("all 1 0 0", "all 0 2 0", "all 3 3 1", "doctors - - 0");
        doctors.answers(2, "copy", 0, 0, 3, 0, 3);
        doctors.leaving("all 1 0 0", "all 0 2 0", "all 3 3 1", "doctors 0 - 0").answers(2, "copy", 1, 0, 3, 0, 3);
        doctors.leaving("all 1 0 0", "all 0 2 0", "all 3 3 1", "doctors 3 3 0").answers(2, "copy", 2, 0, 3, 0, 3);
        doctors.leaving("all 1 0 0", "all 0 2 0", "all 3 3 1", "doctors - 3 0").answers(2, "copy", 2, 1, 3, 1, 2);
        Edge nurses = edge.on("doctors 0 - 3", "nurses 1 1 1", "all 4 2 0 1");
        nurses.answers(2, "copy", 0, 0, 1, 0, 3);
        nurses.leaving("doctors 0 - 3", "nurses - 1 1", "all 4 2 0 1").answers(2, "copy", 0, 1, 1, 0, 2);
        nurses.leaving("doctors 0 - 3", "nurses 4 1 1", "all 4 2 0 1").answers(2, "copy", 2, 0, 1, 0, 3);
    }

    private static void nobodyIsTaken() {
        Edge edge = promise.says("2: whom to's ROSTER doesn't TAKE: all TAKE nobody");
        edge.on("nurses - -", "doctors 0 3").leaving("nurses - -", "doctors - -").answers(0, "copy", 0, 0, 1, 0, 2);
        edge.on("doctors - 0", "nurses 1").leaving("doctors - 0", "nurses -").answers(0, "copy", 0, 0, 1, 0, 1);
        edge.on("doctors - 0", "all 2").leaving("doctors - 0", "all -").answers(0, "copy", 0, 0, 1, 0, 1);
    }

    private static void placeAheadOfTaking() {
        Edge edge = promise.says("3; ahead of 2: at the first PERSON whom to's ROSTER doesn't TAKE");
        edge.on("all 0 1", "doctors -").answers(3, "copy", 0, 0, 1, 0, 2).answers(3, "copy", 0, 1, 1, 1, 1)
            .answers(3, "copy", 0, 1, 1, 0, 2);
    }

    private static void noSuchHook() {
        Edge edge = promise.says("IllegalArgumentException: no such hook");
        for (int hook : Edge.NO_HOOKS) {
            edge.illegal("copy", hook, 0, 3, 0, 1).illegal("copy", 3, 0, hook, 0, 1)
                .illegal("copy", hook, 0, hook, 0, 0).illegal("copy", hook, 0, 6, 0, 0)
                .illegal("copy", 6, 0, hook, 0, 0).illegal("copy", 5, 0, hook, 0, 0).illegal("copy", hook, -1, 3, -1, -1);
        }
    }
}
