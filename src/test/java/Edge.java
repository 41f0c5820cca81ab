import java.util.ArrayList;
import java.util.Arrays;
import java.util.List;

/**
 * One sentence of the document, tried by calls. Each call meets a new object with the same wall and
 * persons, and behind it all that can be seen must be as it was, or as the test says it is left.
 */
final class Edge {
    static final int MIN = Integer.MIN_VALUE;
    static final int MAX = Integer.MAX_VALUE;
    static final int[] NO_HOOKS = {-1, 8, MIN, MAX};

    private static final List<String> WALL = List.of("all 0 1 2 -", "doctors 0 - 3", "nurses 1 4 -",
        "hours 1 -2 3 4", "pay 10 20 30 40", "notice", "nothing", "as 3");
    private static final List<String> STAFF = List.of("doctor", "nurse", "porter", "doctor", "nurse");

    private final Due due;
    private final String sentence;
    private List<String> wall = WALL;
    private List<String> staff = STAFF;
    private List<String> wallLeft = null;
    private List<String> staffLeft = null;

    Edge(Due due, String sentence) {
        this.due = due;
        this.sentence = sentence;
    }

    /** The same sentence with these on the hooks from 0 on. */
    Edge on(String... hooks) {
        Edge edge = again();
        edge.wall = List.of(hooks);
        return edge;
    }

    /** The same sentence with these persons hired. */
    Edge with(String... kinds) {
        Edge edge = again();
        edge.staff = List.of(kinds);
        return edge;
    }

    /** The same sentence, whose calls leave these on the hooks. */
    Edge leaving(String... hooks) {
        Edge edge = again();
        edge.wallLeft = List.of(hooks);
        return edge;
    }

    /** The same sentence, whose calls leave these persons, with their purses. */
    Edge leavingStaff(String... persons) {
        Edge edge = again();
        edge.staffLeft = List.of(persons);
        return edge;
    }

    private Edge again() {
        Edge edge = new Edge(due, sentence);
        edge.wall = wall;
        edge.staff = staff;
        edge.wallLeft = wallLeft;
        edge.staffLeft = staffLeft;
        return edge;
    }

    Edge answers(long want, String name, long... arguments) {
        return meets(Long.toString(want), name, arguments);
    }

    Edge illegal(String name, long... arguments) {
        return meets("throws.IllegalArgumentException", name, arguments);
    }

    Edge noElement(String name, long... arguments) {
        return meets("throws.NoSuchElementException", name, arguments);
    }

    /** "hours 1 2 3" for the hours from 1 to 3. */
    static String upTo(String make, int from, int to) {
        StringBuilder text = new StringBuilder(make);
        for (int v = from; v <= to; v++) {
            text.append(' ').append(v);
        }
        return text.toString();
    }

    /** A row of so many places, the same at each. */
    static String full(String make, String value, int places) {
        return make + (" " + value).repeat(places);
    }

    static String[] many(String what, int times) {
        String[] texts = new String[times];
        Arrays.fill(texts, what);
        return texts;
    }

    private Edge meets(String want, String name, long... arguments) {
        String call = sentence + ": " + Subject.told(name, arguments);
        try {
            Subject x = new Subject();
            Picture.paint(x, wall, staff);
            Picture before = Picture.seen(x);
            due.same(call + " meets", Picture.due(wall, unpaid(staff)).toString(), before.toString());
            due.same(call, want, x.call(name, arguments));
            Picture left = Picture.due(wallLeft == null ? before.hooks : wallLeft,
                staffLeft == null ? before.persons : staffLeft);
            due.same(call + " leaves", left.toString(), Picture.seen(x).toString());
        } catch (IllegalStateException e) {
            due.same(call, want, "not to be seen: " + e.getMessage());
        }
        return this;
    }

    private static List<String> unpaid(List<String> kinds) {
        List<String> persons = new ArrayList<>();
        for (String kind : kinds) {
            persons.add(kind + " 0");
        }
        return persons;
    }
}
