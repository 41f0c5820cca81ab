/** The document's terms, which belong to several promises: their edges. */
public final class TermsTest {
    private static final Promise terms = new Promise("Terms");

    public static void main(String[] args) {
        hooks0To7();
        rowsOf0To40Places();
        aNoticeIsNoRow();
        hoursAreIntsAndPayLongs();
        severalHooksHoldTheSame();
        aSharedNotice();
        persons0To59();
        aPurseIs0AtFirst();
        whomRostersTake();
        rowsThatAreAlike();
        theFirstRefusalTold();
        aRefusedActChangesNothing();
        aCallThatThrowsChangesNothing();
        intsAndLongsWrap();
        exceptionsAheadOfAllElse();
        the512thCall();
        terms.end();
    }

    private static void hooks0To7() {
        Edge edge = terms.says("HOOKS 0 .. 7 (promises 2 and 12)");
        for (int hook = 0; hook <= 7; hook++) {
            String[] left = Edge.many("nothing", hook + 1);
            left[hook] = "hours 0";
            edge.on().leaving(left).answers(0, "hang", hook, 3, 1);
            edge.on(left).answers(hook, "look", hook, 2);
        }
        edge.illegal("hang", -1, 3, 1).illegal("hang", 8, 3, 1).illegal("look", -1, 0).illegal("look", 8, 0);
    }

    private static void rowsOf0To40Places() {
        Edge edge = terms.says("a ROW of 0 .. 40 PLACES, from 0 on (promises 2, 12 and 13)");
        for (String make : new String[] {"all", "doctors", "nurses", "hours", "pay"}) {
            String value = make.equals("nurses") ? "1" : "0";
            Edge empty = edge.on(make);
            empty.answers(0, "look", 0, 1).noElement("at", 0, 0).noElement("at", 0, -1);
            Edge most = edge.on(Edge.full(make, value, 40));
            most.answers(40, "look", 0, 1).noElement("at", 0, -1).noElement("at", 0, 40);
            most.answers(Long.parseLong(value), "at", 0, 0).answers(Long.parseLong(value), "at", 0, 39);
        }
    }

    private static void aNoticeIsNoRow() {
        Edge edge = terms.says("a NOTICE (which is no ROW) (promises 5 to 10, 12 and 13)");
        edge.on("notice", "hours 1").answers(2, "put", 0, 0, -1).answers(2, "note", 0, 0, 1)
            .answers(2, "copy", 0, 0, 0, 0, 0).answers(2, "slide", 0, 0, 0).answers(2, "turn", 0, 0)
            .answers(2, "join", 0, 0, 0).answers(-1, "look", 0, 1).noElement("at", 0, 0);
    }

    private static void hoursAreIntsAndPayLongs() {
        Edge edge = terms.says("3 HOURS, ints of 32 bits; 4 PAY, longs of 64 bits (promises 6 and 13)");
        edge.on("hours " + Edge.MIN + " " + Edge.MAX).answers(Edge.MIN, "at", 0, 0).answers(Edge.MAX, "at", 0, 1);
        edge.on("pay " + Long.MIN_VALUE + " " + Long.MAX_VALUE)
            .answers(Long.MIN_VALUE, "at", 0, 0).answers(Long.MAX_VALUE, "at", 0, 1);
    }

    /** The picture reads each row by each hook that holds it. */
    private static void severalHooksHoldTheSame() {
        Edge edge = terms.says("what is done to it is seen on all of these (promises 3 and 5 to 10)");
        Edge roster = edge.on("all 0 1 2", "as 0", "doctors 3");
        roster.leaving("all 0 1 4", "as 0", "doctors 3").answers(0, "put", 1, 2, 4);
        roster.leaving("all 0 3 2", "as 0", "doctors 3").answers(0, "copy", 2, 0, 1, 1, 1);
        roster.leaving("all 3 3 2", "as 0", "doctors 3").answers(0, "join", 2, 2, 1);
        Edge hours = edge.on("hours 1 2 3", "notice", "as 0");
        hours.leaving("hours 1 9 3", "notice", "as 0").answers(0, "note", 2, 1, 9);
        hours.leaving("hours 0 1 2", "notice", "as 0").answers(0, "slide", 2, 0, 1);
        hours.leaving("hours 2 3 1", "notice", "as 0").answers(0, "turn", 2, 1);
        hours.leaving("hours 2 3 3", "notice", "as 0").answers(0, "copy", 0, 1, 2, 0, 2);
    }

    private static void aSharedNotice() {
        Edge edge = terms.says("Several hooks may hold the same ROW or NOTICE (promises 3 and 12)");
        edge.on("notice", "notice").answers(0, "look", 0, 2).answers(1, "look", 1, 2);
        edge.on("notice", "as 0", "hours", "as 2", "as 2").answers(0, "look", 1, 2).answers(2, "look", 4, 2);
        edge.on(new String[] {"pay 1", "as 0", "as 0", "as 0", "as 0", "as 0", "as 0", "as 0"})
            .answers(0, "look", 7, 2);
    }

    private static void persons0To59() {
        Edge edge = terms.says("PERSONS 0 .. 59, numbered as they were hired (promises 4 and 14)");
        String[] kinds = Edge.many("porter", 60);
        kinds[0] = "doctor";
        kinds[59] = "nurse";
        edge.on().with(kinds).answers(0, "person", 0, 0).answers(2, "person", 1, 0).answers(2, "person", 58, 0)
            .answers(1, "person", 59, 0).noElement("person", 60, 0).noElement("person", -1, 0);
    }

    private static void aPurseIs0AtFirst() {
        Edge edge = terms.says("each has a PURSE, a long, 0 at first (promises 4, 11 and 14)");
        edge.on().with("doctor", "nurse", "porter")
            .answers(0, "person", 0, 1).answers(0, "person", 1, 1).answers(0, "person", 2, 1);
        edge.on("all 0", "hours 0", "pay " + Long.MIN_VALUE).with("doctor")
            .leavingStaff("doctor " + Long.MIN_VALUE).answers(0, "pay", 0, 1, 2);
    }

    private static void whomRostersTake() {
        Edge edge = terms.says("A ROSTER for all TAKES everybody, the two others their own alone; "
            + "all TAKE nobody (promises 5 and 7)");
        String[] rosters = {"all", "doctors", "nurses"};
        for (int make = 0; make <= 2; make++) {
            String own = make == 2 ? "1" : "0";
            Edge roster = edge.on(rosters[make] + " " + own, "all 0", "all 1", "all 2", "all -");
            for (int kind = 0; kind <= 2; kind++) {
                boolean taken = make == 0 || make == kind + 1;
                Edge then = taken ? roster.leaving(rosters[make] + " " + kind, "all 0", "all 1", "all 2", "all -")
                    : roster;
                then.answers(taken ? 0 : 2, "put", 0, 0, kind);
                then.answers(taken ? 0 : 2, "copy", kind + 1, 0, 0, 0, 1);
            }
            Edge nobody = roster.leaving(rosters[make] + " -", "all 0", "all 1", "all 2", "all -");
            nobody.answers(0, "put", 0, 0, -1).answers(0, "copy", 4, 0, 0, 0, 1);
        }
    }

    private static void rowsThatAreAlike() {
        Edge edge = terms.says("ALIKE are two ROWS, if both are ROSTERS (of whichever MAKES), both HOURS, "
            + "or both PAY (promises 7 and 10)");
        Edge rows = edge.on("all", "doctors", "nurses", "hours", "pay");
        for (int from = 0; from <= 4; from++) {
            for (int to = 0; to <= 4; to++) {
                boolean alike = from == to || (from <= 2 && to <= 2);
                rows.answers(alike ? 0 : 2, "copy", from, 0, to, 0, 0);
                rows.answers(alike ? 0 : 2, "join", from, from, to);
            }
        }
    }

    private static void theFirstRefusalTold() {
        Edge edge = terms.says("An act answers 0 when it is done, else the first of those that are told for it "
            + "(promises 5 to 11)");
        edge.answers(1, "put", 6, -1, 0).answers(2, "put", 3, -1, 0).answers(3, "put", 1, -1, 1);
        edge.answers(1, "note", 6, -1, 0).answers(2, "note", 0, -1, 0);
        edge.answers(1, "copy", 6, -1, 5, 0, 0).answers(2, "copy", 3, -1, 4, 0, 0).answers(3, "copy", 0, 0, 1, 0, 4);
        edge.answers(1, "slide", 6, -1, 0).answers(2, "slide", 5, -1, 0);
        edge.answers(1, "turn", 6, -1).answers(2, "turn", 5, -1);
        edge.answers(1, "join", 5, 3, 6).answers(2, "join", 5, 6, 3).answers(3, "join", 0, 6, 1);
        edge.answers(2, "pay", 6, 4, 4).answers(1, "pay", 0, 6, 4);
    }

    private static void aRefusedActChangesNothing() {
        Edge edge = terms.says("it has changed nothing then (promises 2 and 5 to 11)");
        edge.answers(4, "hang", 3, 0, -1).answers(4, "hang", 6, 4, -1);
        edge.answers(1, "put", 6, 0, 0).answers(2, "put", 3, 0, 0).answers(3, "put", 0, 4, 0)
            .answers(2, "put", 1, 0, 1);
        edge.answers(1, "note", 6, 0, 9).answers(2, "note", 0, 0, 9).answers(3, "note", 3, 4, 9);
        edge.answers(1, "copy", 3, 0, 6, 0, 1).answers(2, "copy", 3, 0, 4, 0, 1).answers(2, "copy", 3, 0, 5, 0, 1)
            .answers(3, "copy", 0, 0, 1, 0, 4).answers(3, "copy", 3, 1, 3, 0, 4);
        edge.answers(1, "slide", 6, 0, 1).answers(2, "slide", 5, 0, 1).answers(3, "slide", 3, 1, 4)
            .answers(3, "slide", 3, 1, -2);
        edge.answers(1, "turn", 6, 1).answers(2, "turn", 5, 1).answers(3, "turn", 3, 5);
        edge.answers(1, "join", 6, 3, 3).answers(2, "join", 4, 3, 3).answers(3, "join", 0, 1, 1);
        edge.answers(2, "pay", 0, 4, 4).answers(1, "pay", 0, 3, 6);
    }

    private static void aCallThatThrowsChangesNothing() {
        Edge edge = terms.says("a call that throws changes nothing (promises 2, 3 and 5 to 14)");
        edge.illegal("hang", 3, 7, 0).illegal("hang", 3, 3, 41).illegal("share", 3, 8).illegal("share", 8, 3)
            .illegal("put", 8, 0, 0).noElement("put", 0, 0, 5).illegal("note", 8, 0, 9)
            .illegal("copy", 3, 0, 8, 0, 1).illegal("copy", 8, 0, 3, 0, 1).illegal("slide", 8, 0, 1)
            .illegal("turn", 8, 1).illegal("join", 3, 8, 3).illegal("join", 2, 8, 0).illegal("join", 3, 3, 8)
            .illegal("pay", 0, 3, 8).illegal("pay", 0, 8, 4).illegal("look", 8, 0).illegal("at", 8, 0)
            .noElement("at", 3, 4).noElement("person", 5, 1);
    }

    private static void intsAndLongsWrap() {
        Edge edge = terms.says("Ints and longs wrap (promises 6 and 11)");
        edge.on("hours 0").leaving("hours " + Edge.MIN).answers(0, "note", 0, 0, Edge.MAX + 1L);
        edge.on("hours 0").leaving("hours " + Edge.MAX).answers(0, "note", 0, 0, Edge.MIN - 1L);
        edge.on("all 0 0", "hours 0 0", "pay " + Long.MAX_VALUE + " 1").with("porter")
            .leavingStaff("porter " + Long.MIN_VALUE).answers(0, "pay", 0, 1, 2);
        edge.on("all 0 0", "hours -1 0", "pay " + Long.MIN_VALUE + " 0").with("porter")
            .leavingStaff("porter " + Long.MAX_VALUE).answers(0, "pay", 0, 1, 2);
    }

    private static void exceptionsAheadOfAllElse() {
        Edge edge = terms.says("Of several exceptions the first one told is thrown, ahead of all else "
            + "(promises 2, 3 and 5 to 14)");
        edge.illegal("put", 8, -1, 99).illegal("at", 8, -1).noElement("put", 6, 0, 99).noElement("put", 5, 0, 99)
            .noElement("put", 0, 99, 99).illegal("hang", 8, 0, -1).illegal("hang", 0, 7, -1)
            .illegal("note", 8, -1, 0).illegal("copy", 6, 0, 8, 0, 0).illegal("copy", 8, -1, 5, 0, 0)
            .illegal("slide", 8, -1, 0).illegal("turn", 8, -1).illegal("join", 6, 6, 8).illegal("join", 6, 8, 6)
            .illegal("pay", 5, 5, 8).illegal("pay", 6, 8, 6).illegal("look", 8, 9).illegal("share", 6, 8);
        edge.noElement("person", 99, 9);
    }

    /** Of 512 calls the last ones are answered as the first: rows that fell off the wall are no matter. */
    private static void the512thCall() {
        String name = terms.told("An object is used for at most 512 calls (promise 2)");
        Subject x = new Subject();
        for (int call = 1; call <= 509; call++) {
            terms.due.same(name + " hang", "0", x.call("hang", call % 8, call % 5, 40));
        }
        terms.due.same(name + " note", "0", x.call("note", 4, 39, 7));
        terms.due.same(name + " at", "7", x.call("at", 4, 39));
        terms.due.same(name + " look", "4", x.call("look", 4, 2));
    }
}
