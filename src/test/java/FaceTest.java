import java.lang.reflect.Constructor;
import java.lang.reflect.Field;
import java.lang.reflect.Method;
import java.lang.reflect.Modifier;
import java.util.Arrays;
import java.util.Set;
import java.util.TreeSet;

/** The class shows the document's face and nothing beside it. */
public final class FaceTest {
    private static final String FACE = "public DutyRota()\n"
        + "public static final int DutyRota.NONE\n"
        + "public int DutyRota.count()\n"
        + "public int DutyRota.hire(int)\n"
        + "public int DutyRota.copy(int,int,int,int,int) throws java.lang.IllegalArgumentException\n"
        + "public int DutyRota.hang(int,int,int) throws java.lang.IllegalArgumentException\n"
        + "public int DutyRota.join(int,int,int) throws java.lang.IllegalArgumentException\n"
        + "public int DutyRota.look(int,int) throws java.lang.IllegalArgumentException\n"
        + "public int DutyRota.note(int,int,long) throws java.lang.IllegalArgumentException\n"
        + "public int DutyRota.pay(int,int,int) throws java.lang.IllegalArgumentException\n"
        + "public int DutyRota.put(int,int,int) throws java.lang.IllegalArgumentException,"
        + "java.util.NoSuchElementException\n"
        + "public int DutyRota.share(int,int) throws java.lang.IllegalArgumentException\n"
        + "public int DutyRota.slide(int,int,int) throws java.lang.IllegalArgumentException\n"
        + "public int DutyRota.turn(int,int) throws java.lang.IllegalArgumentException\n"
        + "public long DutyRota.at(int,int) throws java.lang.IllegalArgumentException,"
        + "java.util.NoSuchElementException\n"
        + "public long DutyRota.person(int,int) throws java.util.NoSuchElementException";

    public static void main(String[] args) {
        Due due = new Due();
        Set<String> want = new TreeSet<>(Arrays.asList(FACE.split("\n")));
        due.same("the face", String.join("\n", want), String.join("\n", seenFace()));
        due.same("the class", "public final", Modifier.toString(DutyRota.class.getModifiers()));
        due.same("private methods with a public one's name", "[]", doubledNames().toString());
        for (Class<?> inside : DutyRota.class.getDeclaredClasses()) {
            int modifiers = inside.getModifiers();
            boolean hidden = !Modifier.isPublic(modifiers) && !Modifier.isProtected(modifiers);
            due.same(inside + " hidden and static", "true", "" + (hidden && Modifier.isStatic(modifiers)));
        }
        due.end();
    }

    private static Set<String> seenFace() {
        Set<String> seen = new TreeSet<>();
        for (Constructor<?> c : DutyRota.class.getDeclaredConstructors()) {
            seen.add(c.toString());
        }
        for (Method m : DutyRota.class.getDeclaredMethods()) {
            if (!Modifier.isPrivate(m.getModifiers())) {
                seen.add(m.toString());
            }
        }
        for (Field f : DutyRota.class.getDeclaredFields()) {
            if (!Modifier.isPrivate(f.getModifiers())) {
                seen.add(f.toString());
            }
        }
        return seen;
    }

    private static Set<String> doubledNames() {
        Set<String> open = new TreeSet<>();
        Set<String> hidden = new TreeSet<>();
        for (Method m : DutyRota.class.getDeclaredMethods()) {
            (Modifier.isPrivate(m.getModifiers()) ? hidden : open).add(m.getName());
        }
        hidden.retainAll(open);
        return hidden;
    }
}
