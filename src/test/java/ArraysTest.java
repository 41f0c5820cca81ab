import java.lang.reflect.Array;
import java.util.Arrays;
import java.util.Collections;
import java.util.IdentityHashMap;
import java.util.NoSuchElementException;
import java.util.Objects;
import java.util.Random;
import java.util.Set;
import java.util.function.LongSupplier;

/**
 * Random runs (always the same ones) on the class and on a second wall whose rows are Java's own
 * arrays: there the machine's exceptions tell the refusals, in the machine's order.
 */
public final class ArraysTest {
    private static final int RUNS = 6000;
    private static final int[] STRANGE = {
        Integer.MIN_VALUE, Integer.MIN_VALUE + 1, -41, -2, -1, 7, 8, 40, 41, 60, Integer.MAX_VALUE - 1,
        Integer.MAX_VALUE};

    private static final Due due = new Due();

    public static void main(String[] args) {
        for (int run = 0; run < RUNS; run++) {
            new Run(run).go();
        }
        due.end();
    }

    /** One run: the same calls on both walls, then a reading of both, within 512 calls. */
    private static final class Run {
        private final int number;
        private final Random random;
        private final DutyRota rota = new DutyRota();
        private final Wall wall = new Wall();
        private final int most;
        private final StringBuilder told = new StringBuilder();

        Run(int number) {
            this.number = number;
            random = new Random(number);
            most = number % 10 == 0 ? 40 : 5;
        }

        void go() {
            int acts = most == 40 ? 100 : 150;
            for (int c = 0; c < acts; c++) {
                act();
            }
            readWall();
            readPersons();
        }

        private void act() {
            switch (random.nextInt(16)) {
                case 0, 1 -> hang();
                case 2 -> share();
                case 3 -> hire();
                case 4, 5, 6 -> put();
                case 7, 8 -> note();
                case 9, 10 -> copy();
                case 11 -> slide();
                case 12 -> turn();
                case 13 -> join();
                case 14 -> pay();
                default -> read();
            }
        }

        private void hang() {
            int hook = hook();
            int make = pick(7);
            int n = pick(most + 1);
            both("hang", () -> rota.hang(hook, make, n), () -> wall.hang(hook, make, n), hook, make, n);
        }

        private void share() {
            int from = hook();
            int to = hook();
            both("share", () -> rota.share(from, to), () -> wall.share(from, to), from, to);
        }

        private void hire() {
            int kind = pick(3);
            both("hire", () -> rota.hire(kind), () -> wall.hire(kind), kind);
        }

        private void put() {
            int hook = hook();
            int i = pick(most + 1);
            int person = pick(wall.hired + 1) - 1;
            both("put", () -> rota.put(hook, i, person), () -> wall.put(hook, i, person), hook, i, person);
        }

        private void note() {
            int hook = hook();
            int i = pick(most + 1);
            long v = random.nextBoolean() ? random.nextInt(9) : random.nextLong();
            both("note", () -> rota.note(hook, i, v), () -> wall.note(hook, i, v), hook, i, v);
        }

        private void copy() {
            int from = hook();
            int i = pick(most);
            int to = hook();
            int j = pick(most);
            int n = pick(most);
            both("copy", () -> rota.copy(from, i, to, j, n), () -> wall.copy(from, i, to, j, n), from, i, to, j, n);
        }

        private void slide() {
            int hook = hook();
            int i = pick(most + 1);
            int k = random.nextBoolean() ? pick(most) : pick(most) - i;
            both("slide", () -> rota.slide(hook, i, k), () -> wall.slide(hook, i, k), hook, i, k);
        }

        private void turn() {
            int hook = hook();
            int k = pick(most + 1);
            both("turn", () -> rota.turn(hook, k), () -> wall.turn(hook, k), hook, k);
        }

        private void join() {
            int a = hook();
            int b = hook();
            int to = hook();
            both("join", () -> rota.join(a, b, to), () -> wall.join(a, b, to), a, b, to);
        }

        private void pay() {
            int roster = hookOf(0, 2);
            int hours = hookOf(3, 3);
            int pays = hookOf(4, 4);
            both("pay", () -> rota.pay(roster, hours, pays), () -> wall.pay(roster, hours, pays), roster, hours, pays);
        }

        private void read() {
            look(hook(), pick(3));
            at(hook(), pick(most));
            person(pick(wall.hired + 1), pick(3));
            both("count", () -> rota.count(), () -> wall.hired);
        }

        private void readWall() {
            for (int hook = 0; hook < 8; hook++) {
                for (int what = 0; what <= 2; what++) {
                    look(hook, what);
                }
                int step = most == 40 ? 3 : 1;
                for (int i = 0; i < most; i += step) {
                    at(hook, i);
                }
            }
        }

        private void readPersons() {
            for (int p = 0; p < wall.hired; p++) {
                person(p, 1);
                person(p, 2);
            }
        }

        private void look(int hook, int what) {
            both("look", () -> rota.look(hook, what), () -> wall.look(hook, what), hook, what);
        }

        private void at(int hook, int i) {
            both("at", () -> rota.at(hook, i), () -> wall.at(hook, i), hook, i);
        }

        private void person(int p, int what) {
            both("person", () -> rota.person(p, what), () -> wall.person(p, what), p, what);
        }

        private int pick(int below) {
            return random.nextInt(40) == 0 ? STRANGE[random.nextInt(STRANGE.length)] : random.nextInt(below);
        }

        private int hook() {
            return pick(random.nextInt(4) == 0 ? 8 : 5);
        }

        /** Mostly a hook with one of these makes, so that pay often goes through. */
        private int hookOf(int least, int greatest) {
            for (int hook = 0; hook < 8 && random.nextInt(12) != 0; hook++) {
                long make = wall.look(hook, 0);
                if (make >= least && make <= greatest) {
                    return hook;
                }
            }
            return hook();
        }

        private void both(String name, LongSupplier ours, LongSupplier theirs, long... arguments) {
            String call = name + Arrays.toString(arguments);
            String want = seen(theirs);
            told.append(call).append(' ').append(want).append("; ");
            String got = seen(ours);
            due.same(got.equals(want) ? call : "run " + number + ": " + told, want, got);
        }
    }

    /** The answer as a text, or throws.Name of what the call threw. */
    private static String seen(LongSupplier call) {
        try {
            return Long.toString(call.getAsLong());
        } catch (RuntimeException e) {
            return "throws." + e.getClass().getSimpleName();
        }
    }

    private static class Person {
        final int number;
        final int kind;
        long purse = 0;

        Person(int number, int kind) {
            this.number = number;
            this.kind = kind;
        }
    }

    private static final class Doctor extends Person {
        Doctor(int number) {
            super(number, 0);
        }
    }

    private static final class Nurse extends Person {
        Nurse(int number) {
            super(number, 1);
        }
    }

    /** Hooks hold Person[], Doctor[], Nurse[], int[], long[], a String for a notice, or null. */
    private static final class Wall {
        private final Object[] hooks = new Object[8];
        private final Person[] persons = new Person[60];
        int hired = 0;

        private void hooksAre(int... numbers) {
            for (int h : numbers) {
                if (h != (h & 7)) {
                    throw new IllegalArgumentException();
                }
            }
        }

        private Person known(int p) {
            if (p < 0 || p >= hired) {
                throw new NoSuchElementException();
            }
            return persons[p];
        }

        long hang(int hook, int make, int n) {
            hooksAre(hook);
            if (make < 0 || make > 6 || n > 40) {
                throw new IllegalArgumentException();
            }
            try {
                hooks[hook] = switch (make) {
                    case 0 -> new Person[n];
                    case 1 -> new Doctor[n];
                    case 2 -> new Nurse[n];
                    case 3 -> new int[n];
                    case 4 -> new long[n];
                    case 5 -> new String("notice");
                    default -> null;
                };
                return 0;
            } catch (NegativeArraySizeException e) {
                return 4;
            }
        }

        long share(int from, int to) {
            hooksAre(from, to);
            hooks[to] = hooks[from];
            return look(to, 0);
        }

        long hire(int kind) {
            if (kind < 0 || kind > 2 || hired == 60) {
                return -1;
            }
            persons[hired] = kind == 0 ? new Doctor(hired) : kind == 1 ? new Nurse(hired) : new Person(hired, 2);
            return hired++;
        }

        long put(int hook, int i, int p) {
            hooksAre(hook);
            Person person = p == -1 ? null : known(p);
            try {
                ((Person[]) hooks[hook])[i] = person;
                return 0;
            } catch (RuntimeException e) {
                return refusal(e);
            }
        }

        long note(int hook, int i, long v) {
            hooksAre(hook);
            try {
                if (hooks[hook] instanceof int[] ints) {
                    ints[i] = (int) v;
                } else {
                    ((long[]) hooks[hook])[i] = v;
                }
                return 0;
            } catch (RuntimeException e) {
                return refusal(e);
            }
        }

        long copy(int from, int i, int to, int j, int n) {
            hooksAre(from, to);
            try {
                System.arraycopy(hooks[from], i, hooks[to], j, n);
                return 0;
            } catch (RuntimeException e) {
                return refusal(e);
            }
        }

        long slide(int hook, int i, int k) {
            hooksAre(hook);
            long size = look(hook, 1);
            if (size < 0) {
                return hooks[hook] == null ? 1 : 2;
            }
            long goal = (long) i + (long) k;
            if (i < 0 || i > size || goal < 0 || goal > size) {
                return 3;
            }
            Object old = fresh(hook, (int) size);
            Object row = hooks[hook];
            System.arraycopy(row, 0, old, 0, (int) size);
            Object empty = fresh(hook, (int) size);
            int start = (int) Math.min(i, goal);
            System.arraycopy(empty, 0, row, start, (int) size - start);
            int kept = (int) (size - Math.max(i, goal));
            System.arraycopy(old, i, row, (int) goal, kept);
            return 0;
        }

        long turn(int hook, int k) {
            hooksAre(hook);
            int size = (int) look(hook, 1);
            if (size < 0) {
                return hooks[hook] == null ? 1 : 2;
            }
            if (k < 0 || k > size) {
                return 3;
            }
            Object twice = fresh(hook, 2 * size);
            System.arraycopy(hooks[hook], 0, twice, 0, size);
            System.arraycopy(hooks[hook], 0, twice, size, size);
            System.arraycopy(twice, k, hooks[hook], 0, size);
            return 0;
        }

        long join(int a, int b, int to) {
            hooksAre(a, b, to);
            int first = Math.max(0, (int) look(a, 1));
            int second = Math.max(0, (int) look(b, 1));
            long answer = copy(a, 0, to, 0, first);
            return answer != 0 ? answer : copy(b, 0, to, first, second);
        }

        long pay(int roster, int hours, int pays) {
            hooksAre(roster, hours, pays);
            try {
                Person[] staff = (Person[]) hooks[roster];
                int[] ints = (int[]) hooks[hours];
                long[] longs = (long[]) hooks[pays];
                for (Object row : new Object[] {staff, ints, longs}) {
                    Objects.requireNonNull(row);
                }
                for (int i = 0; i < staff.length; i++) {
                    long base = ints[i];
                    long extra = longs[i];
                    if (staff[i] != null) {
                        staff[i].purse += base * (3 - staff[i].kind) + extra;
                    }
                }
                return 0;
            } catch (RuntimeException e) {
                return refusal(e);
            }
        }

        long look(int hook, int what) {
            hooksAre(hook);
            Object held = hooks[hook];
            if (what == 0) {
                return held == null ? 6 : held instanceof Doctor[] ? 1 : held instanceof Nurse[] ? 2
                    : held instanceof Person[] ? 0 : held instanceof int[] ? 3 : held instanceof long[] ? 4 : 5;
            }
            if (what == 1) {
                return held == null || held instanceof String ? -1 : Array.getLength(held);
            }
            for (int h = 0; what == 2 && held != null && h < 8; h++) {
                if (hooks[h] == held) {
                    return h;
                }
            }
            return -1;
        }

        long at(int hook, int i) {
            hooksAre(hook);
            if (i < 0 || i >= look(hook, 1)) {
                throw new NoSuchElementException();
            }
            Object held = hooks[hook];
            if (held instanceof Person[] staff) {
                return staff[i] == null ? -1 : staff[i].number;
            }
            return Array.getLong(held, i);
        }

        long person(int p, int what) {
            Person person = known(p);
            return what == 0 ? person.kind : what == 1 ? person.purse : what == 2 ? standings(person) : -1;
        }

        private long standings(Person person) {
            long found = 0;
            Set<Object> seen = Collections.newSetFromMap(new IdentityHashMap<>());
            for (Object held : hooks) {
                if (held instanceof Person[] staff && seen.add(held)) {
                    found += Arrays.stream(staff).filter(s -> s == person).count();
                }
            }
            return found;
        }

        private Object fresh(int hook, int size) {
            return Array.newInstance(hooks[hook].getClass().getComponentType(), size);
        }

        private static long refusal(RuntimeException e) {
            if (e instanceof NullPointerException) {
                return 1;
            }
            if (e instanceof ClassCastException || e instanceof ArrayStoreException) {
                return 2;
            }
            if (e instanceof IndexOutOfBoundsException) {
                return 3;
            }
            throw e;
        }
    }
}
