import java.util.NoSuchElementException;
import java.util.function.LongSupplier;

/** Each promise of the document: ordinary inputs, the edges it names, wrong inputs. */
public final class PromisesTest {
    private static final Class<IllegalArgumentException> ILLEGAL = IllegalArgumentException.class;
    private static final Class<NoSuchElementException> NO_ELEMENT = NoSuchElementException.class;
    private static final int MAX = Integer.MAX_VALUE;
    private static final int MIN = Integer.MIN_VALUE;
    private static final int[] BAD_HOOKS = {-1, 8, MAX, MIN};

    private static final Due due = new Due();

    public static void main(String[] args) {
        promise1NewObject();
        promise2Hang();
        promise2HangAnew();
        promise3Share();
        promise4Hire();
        promise5Put();
        promise6Note();
        promise7CopyRefusals();
        promise7CopyOverlaps();
        promise7CopyStops();
        promise8Slide();
        promise8SlideRefusals();
        promise9Turn();
        promise10Join();
        promise10JoinRefusals();
        promise10JoinOntoItself();
        promise11Pay();
        promise11PayRefusals();
        promise11PayStops();
        promise12Look();
        promise13At();
        promise14Person();
        promise15Count();
        due.end();
    }

    private static void promise1NewObject() {
        DutyRota x = new DutyRota();
        due.answer("1 NONE", -1, () -> DutyRota.NONE);
        due.answer("1 count", 0, x::count);
        for (int h = 0; h < 8; h++) {
            int hook = h;
            due.answer("1 make on hook " + h, 6, () -> x.look(hook, 0));
        }
        due.thrown("1 person 0", NO_ELEMENT, () -> x.person(0, 0));
        DutyRota y = new DutyRota();
        x.hire(2);
        x.hang(3, 3, 1);
        due.answer("1 another object's count", 0, y::count);
        due.answer("1 another object's hook", 6, () -> y.look(3, 0));
    }

    private static void promise2Hang() {
        DutyRota x = new DutyRota();
        for (int m = 0; m <= 4; m++) {
            int make = m;
            long empty = make <= 2 ? -1 : 0;
            due.answer("2 hang make " + m, 0, () -> x.hang(make, make, 3));
            due.answer("2 make " + m, make, () -> x.look(make, 0));
            due.answer("2 places of make " + m, 3, () -> x.look(make, 1));
            sees("2 row of make " + m, x, make, empty, empty, empty);
        }
        due.answer("2 notice", 0, () -> x.hang(5, 5, 7));
        due.answer("2 notice hangs", 5, () -> x.look(5, 0));
        due.answer("2 nothing", 0, () -> x.hang(0, 6, 0));
        due.answer("2 nothing hangs", 6, () -> x.look(0, 0));
        due.answer("2 row of 0", 0, () -> x.hang(7, 4, 0));
        due.answer("2 row of 0 has 0", 0, () -> x.look(7, 1));
        due.answer("2 row of 40", 0, () -> x.hang(7, 1, 40));
        due.answer("2 last of 40", -1, () -> x.at(7, 39));
        due.thrown("2 beyond 40", NO_ELEMENT, () -> x.at(7, 40));
    }

    private static void promise2HangAnew() {
        DutyRota x = new DutyRota();
        row(x, 0, 3, 1, 2, 3);
        x.share(0, 1);
        for (int m = 0; m <= 4; m++) {
            int make = m;
            due.answer("2 n below 0, make " + m, 4, () -> x.hang(0, make, -1));
            due.answer("2 n least, make " + m, 4, () -> x.hang(0, make, MIN));
        }
        sees("2 refused, unchanged", x, 0, 1, 2, 3);
        for (int m = 0; m <= 6; m++) {
            int make = m;
            due.thrown("2 n 41, make " + m, ILLEGAL, () -> x.hang(0, make, 41));
            due.thrown("2 n most, make " + m, ILLEGAL, () -> x.hang(0, make, MAX));
        }
        for (int bad : BAD_HOOKS) {
            due.thrown("2 hook " + bad, ILLEGAL, () -> x.hang(bad, 0, 1));
            due.thrown("2 hook ahead of size " + bad, ILLEGAL, () -> x.hang(bad, 0, -1));
        }
        due.thrown("2 make -1", ILLEGAL, () -> x.hang(0, -1, 1));
        due.thrown("2 make 7", ILLEGAL, () -> x.hang(0, 7, 1));
        due.thrown("2 make 7 ahead of size", ILLEGAL, () -> x.hang(0, 7, -1));
        sees("2 thrown, unchanged", x, 0, 1, 2, 3);
        due.answer("2 notice of -1", 0, () -> x.hang(0, 5, -1));
        due.answer("2 notice of -1 hangs", 5, () -> x.look(0, 0));
        due.answer("2 nothing of least", 0, () -> x.hang(0, 6, MIN));
        due.answer("2 nothing of least hangs", 6, () -> x.look(0, 0));
        sees("2 the other hook keeps the row", x, 1, 1, 2, 3);
        x.hang(1, 3, 3);
        sees("2 a new row is empty", x, 1, 0, 0, 0);
        for (int times = 0; times < 40; times++) {
            int hook = times % 8;
            due.answer("2 hang often", 0, () -> x.hang(hook, 4, 2));
            due.answer("2 its own row", hook, () -> x.look(hook, 2));
            sees("2 hung often", x, hook, 0, 0);
            x.note(hook, 1, times);
        }
    }

    private static void promise3Share() {
        DutyRota x = new DutyRota();
        for (int m = 0; m <= 6; m++) {
            int make = m;
            x.hang(0, make, 2);
            x.hang(1, 3, 5);
            due.answer("3 share make " + m, make, () -> x.share(0, 1));
            due.answer("3 shared make " + m, make, () -> x.look(1, 0));
            due.answer("3 from keeps make " + m, make, () -> x.look(0, 0));
        }
        row(x, 2, 3, 4, 5);
        due.answer("3 onto itself", 3, () -> x.share(2, 2));
        sees("3 onto itself keeps", x, 2, 4, 5);
        x.share(2, 7);
        x.note(7, 0, 9);
        sees("3 seen on all", x, 2, 9, 5);
        x.turn(2, 1);
        sees("3 seen on all after turn", x, 7, 5, 9);
        for (int bad : BAD_HOOKS) {
            due.thrown("3 from " + bad, ILLEGAL, () -> x.share(bad, 0));
            due.thrown("3 to " + bad, ILLEGAL, () -> x.share(2, bad));
        }
        due.answer("3 nothing is shared too", 6, () -> x.share(6, 2));
        due.answer("3 nothing hangs", 6, () -> x.look(2, 0));
    }

    private static void promise4Hire() {
        DutyRota x = new DutyRota();
        due.answer("4 kind -1", -1, () -> x.hire(-1));
        due.answer("4 kind 3", -1, () -> x.hire(3));
        due.answer("4 kind least", -1, () -> x.hire(MIN));
        due.answer("4 kind most", -1, () -> x.hire(MAX));
        due.answer("4 none hired", 0, x::count);
        for (int p = 0; p < 60; p++) {
            int number = p;
            due.answer("4 hire " + p, number, () -> x.hire(number % 3));
            due.answer("4 kind of " + p, number % 3, () -> x.person(number, 0));
        }
        due.answer("4 the 61st", -1, () -> x.hire(0));
        due.answer("4 sixty", 60, x::count);
        due.thrown("4 no 61st", NO_ELEMENT, () -> x.person(60, 0));
    }

    private static void promise5Put() {
        DutyRota x = staffed();
        int[][] taken = {{0, 0, 0, 0}, {0, 2, 2, 0}, {2, 0, 2, 0}};
        for (int m = 0; m <= 2; m++) {
            x.hang(m, m, 2);
            for (int p = -1; p <= 2; p++) {
                int hook = m;
                int person = p;
                int want = p < 0 ? 0 : taken[m][p];
                due.answer("5 put " + p + " on make " + m, want, () -> x.put(hook, 1, person));
            }
        }
        x.put(1, 0, 0);
        due.answer("5 refused", 2, () -> x.put(1, 0, 1));
        sees("5 refused, unchanged", x, 1, 0, 0);
        due.answer("5 nobody comes", 0, () -> x.put(1, 0, -1));
        sees("5 nobody came", x, 1, -1, 0);
        due.answer("5 missing", 1, () -> x.put(7, 0, 0));
        due.answer("5 missing ahead of place", 1, () -> x.put(7, 99, 0));
        for (int make = 3; make <= 5; make++) {
            x.hang(3, make, 2);
            due.answer("5 no roster " + make, 2, () -> x.put(3, 0, 0));
            due.answer("5 no roster ahead of place " + make, 2, () -> x.put(3, 5, -1));
        }
        for (int i : new int[] {-1, 2, MAX, MIN}) {
            due.answer("5 place " + i, 3, () -> x.put(0, i, 0));
            due.answer("5 place ahead of taking " + i, 3, () -> x.put(1, i, 1));
        }
        for (int p : new int[] {-2, 3, 60, MAX, MIN}) {
            due.thrown("5 person " + p, NO_ELEMENT, () -> x.put(0, 0, p));
            due.thrown("5 person ahead of missing " + p, NO_ELEMENT, () -> x.put(7, 0, p));
            due.thrown("5 hook ahead of person " + p, ILLEGAL, () -> x.put(8, 0, p));
        }
        for (int bad : BAD_HOOKS) {
            due.thrown("5 hook " + bad, ILLEGAL, () -> x.put(bad, 0, 0));
        }
    }

    private static void promise6Note() {
        DutyRota x = staffed();
        x.hang(0, 3, 4);
        x.hang(1, 4, 4);
        long[] values = {7, 0x1_8000_0000L, Long.MIN_VALUE, 0xFFFF_FFFFL};
        long[] ints = {7, Integer.MIN_VALUE, 0, -1};
        for (int i = 0; i < 4; i++) {
            int place = i;
            due.answer("6 hours " + i, 0, () -> x.note(0, place, values[place]));
            due.answer("6 pay " + i, 0, () -> x.note(1, place, values[place]));
        }
        sees("6 hours keep 32 bits", x, 0, ints);
        sees("6 pay keeps 64", x, 1, values);
        due.answer("6 missing", 1, () -> x.note(7, -1, 1));
        for (int make : new int[] {0, 1, 2, 5}) {
            x.hang(2, make, 2);
            due.answer("6 neither, make " + make, 2, () -> x.note(2, 0, 0));
            due.answer("6 neither ahead of place " + make, 2, () -> x.note(2, 9, 0));
        }
        for (int i : new int[] {-1, 4, MAX, MIN}) {
            due.answer("6 hours' place " + i, 3, () -> x.note(0, i, 1));
            due.answer("6 pay's place " + i, 3, () -> x.note(1, i, 1));
        }
        sees("6 refused, unchanged", x, 0, ints);
        for (int bad : BAD_HOOKS) {
            due.thrown("6 hook " + bad, ILLEGAL, () -> x.note(bad, 0, 1));
        }
    }

    private static void promise7CopyRefusals() {
        DutyRota x = new DutyRota();
        row(x, 0, 3, 1, 2, 3, 4);
        row(x, 1, 3, 5, 6, 7);
        x.hang(2, 5, 0);
        x.hang(3, 4, 4);
        x.hang(4, 0, 4);
        due.answer("7 from missing", 1, () -> x.copy(7, 0, 0, 0, 0));
        due.answer("7 to missing", 1, () -> x.copy(0, 0, 7, 0, 0));
        due.answer("7 missing ahead of kind", 1, () -> x.copy(2, 0, 7, 0, 0));
        due.answer("7 missing ahead of place", 1, () -> x.copy(7, -1, 0, 0, 0));
        due.answer("7 from notice", 2, () -> x.copy(2, 0, 0, 0, 0));
        due.answer("7 to notice", 2, () -> x.copy(0, 0, 2, 0, 0));
        due.answer("7 both one notice", 2, () -> x.copy(2, 0, 2, 0, 0));
        int[][] unlike = {{0, 3}, {3, 0}, {0, 4}, {4, 0}, {3, 4}, {4, 3}};
        for (int[] pair : unlike) {
            String hooks = pair[0] + " and " + pair[1];
            due.answer("7 unlike " + hooks, 2, () -> x.copy(pair[0], 0, pair[1], 0, 0));
            due.answer("7 kind ahead of place " + hooks, 2, () -> x.copy(pair[0], -1, pair[1], 0, 9));
        }
        int[][] spans = {{-1, 0, 1}, {0, -1, 1}, {0, 0, -1}, {2, 0, 3}, {0, 1, 3}, {5, 0, 0}, {0, 4, 0},
            {MAX, 0, MAX}, {0, MAX, MAX}, {1, MAX, 2}, {MAX, 1, 1}, {MIN, 0, MIN}, {0, 0, MIN}, {4, 3, -1}};
        for (int[] s : spans) {
            due.answer("7 span " + s[0] + " " + s[1] + " " + s[2], 3, () -> x.copy(0, s[0], 1, s[1], s[2]));
        }
        for (int bad : BAD_HOOKS) {
            due.thrown("7 from " + bad, ILLEGAL, () -> x.copy(bad, 0, 1, 0, 1));
            due.thrown("7 to " + bad, ILLEGAL, () -> x.copy(0, 0, bad, 0, 1));
        }
        sees("7 unchanged", x, 1, 5, 6, 7);
        due.answer("7 none at the ends", 0, () -> x.copy(0, 4, 1, 3, 0));
        due.answer("7 the last ones", 0, () -> x.copy(0, 2, 1, 1, 2));
        sees("7 came", x, 1, 5, 3, 4);
        sees("7 from keeps", x, 0, 1, 2, 3, 4);
    }

    private static void promise7CopyOverlaps() {
        DutyRota x = new DutyRota();
        row(x, 0, 4, 1, 2, 3, 4, 5);
        x.share(0, 1);
        due.answer("7 later in itself", 0, () -> x.copy(0, 0, 0, 1, 4));
        sees("7 moved later", x, 0, 1, 1, 2, 3, 4);
        due.answer("7 earlier in itself", 0, () -> x.copy(0, 2, 1, 0, 3));
        sees("7 moved earlier", x, 0, 2, 3, 4, 3, 4);
        due.answer("7 later by two hooks", 0, () -> x.copy(1, 0, 0, 2, 3));
        sees("7 moved by two hooks", x, 1, 2, 3, 2, 3, 4);
        x.hang(2, 3, 40);
        x.hang(3, 3, 40);
        x.note(2, 39, -5);
        due.answer("7 forty", 0, () -> x.copy(2, 0, 3, 0, 40));
        due.answer("7 the fortieth", -5, () -> x.at(3, 39));
    }

    private static void promise7CopyStops() {
        DutyRota x = staffed();
        row(x, 0, 0, 0, -1, 2, 1, 0);
        row(x, 1, 1, 0, 0, 0, 0, 0);
        row(x, 2, 2, 1, 1, 1, 1, 1);
        due.answer("7 doctors stop at a porter", 2, () -> x.copy(0, 0, 1, 0, 5));
        sees("7 those ahead came", x, 1, 0, -1, 0, 0, 0);
        due.answer("7 nurses stop at a doctor", 2, () -> x.copy(0, 1, 2, 1, 4));
        sees("7 nobody came ahead", x, 2, 1, -1, 1, 1, 1);
        due.answer("7 place ahead of taking", 3, () -> x.copy(0, 0, 2, 1, 5));
        due.answer("7 nurses to doctors", 2, () -> x.copy(2, 0, 1, 0, 1));
        due.answer("7 nobody among nurses", 0, () -> x.copy(2, 1, 1, 4, 1));
        due.answer("7 no places of nurses", 0, () -> x.copy(2, 0, 1, 0, 0));
        sees("7 doctors are now", x, 1, 0, -1, 0, 0, -1);
        due.answer("7 nurses to all", 0, () -> x.copy(2, 0, 0, 0, 2));
        sees("7 all are now", x, 0, 1, -1, 2, 1, 0);
    }

    private static void promise8Slide() {
        DutyRota x = staffed();
        slid("8 later", x, 1, 2, 1, 0, 0, 2, 3);
        slid("8 all later", x, 0, 1, 0, 1, 2, 3, 4);
        slid("8 all fall off", x, 0, 5, 0, 0, 0, 0, 0);
        slid("8 the tail falls off", x, 3, 2, 1, 2, 3, 0, 0);
        slid("8 by 0", x, 2, 0, 1, 2, 3, 4, 5);
        slid("8 at the end by 0", x, 5, 0, 1, 2, 3, 4, 5);
        slid("8 earlier", x, 3, -2, 1, 4, 5, 0, 0);
        slid("8 earlier to the first", x, 1, -1, 2, 3, 4, 5, 0);
        slid("8 nothing earlier", x, 5, -2, 1, 2, 3, 0, 0);
        slid("8 nothing earlier to the first", x, 5, -5, 0, 0, 0, 0, 0);
        row(x, 1, 0, 0, 1, 2);
        due.answer("8 roster later", 0, () -> x.slide(1, 0, 1));
        sees("8 nobody ahead", x, 1, -1, 0, 1);
        due.answer("8 roster earlier", 0, () -> x.slide(1, 1, -1));
        sees("8 nobody behind", x, 1, 0, 1, -1);
        row(x, 2, 4, Long.MAX_VALUE, 1);
        due.answer("8 pay later", 0, () -> x.slide(2, 0, 1));
        sees("8 pay slid", x, 2, 0, Long.MAX_VALUE);
        x.hang(3, 2, 0);
        due.answer("8 row of 0", 0, () -> x.slide(3, 0, 0));
        x.hang(4, 3, 40);
        x.note(4, 20, 8);
        x.note(4, 39, 9);
        due.answer("8 forty later", 0, () -> x.slide(4, 20, 19));
        due.answer("8 forty slid later", 8, () -> x.at(4, 39));
        due.answer("8 forty earlier", 0, () -> x.slide(4, 39, -39));
        due.answer("8 forty slid earlier", 8, () -> x.at(4, 0));
        due.answer("8 forty have 0 behind", 0, () -> x.at(4, 39));
    }

    private static void slid(String name, DutyRota x, int i, int k, long... want) {
        row(x, 0, 3, 1, 2, 3, 4, 5);
        due.answer(name, 0, () -> x.slide(0, i, k));
        sees(name, x, 0, want);
    }

    private static void promise8SlideRefusals() {
        DutyRota x = new DutyRota();
        row(x, 0, 3, 1, 2, 3);
        x.hang(1, 5, 0);
        x.hang(2, 4, 0);
        int[][] out = {{-1, 0}, {-1, 1}, {4, 0}, {4, -1}, {0, 4}, {1, 3}, {3, 1}, {0, -1}, {2, -3}, {3, -4},
            {MAX, MAX}, {MAX, MIN}, {MIN, MIN}, {MIN, MAX}, {1, MAX}, {3, MIN}, {MAX, -MAX}};
        for (int[] o : out) {
            due.answer("8 slide " + o[0] + " by " + o[1], 3, () -> x.slide(0, o[0], o[1]));
        }
        due.answer("8 row of 0 by 1", 3, () -> x.slide(2, 0, 1));
        due.answer("8 row of 0 by -1", 3, () -> x.slide(2, 0, -1));
        sees("8 refused, unchanged", x, 0, 1, 2, 3);
        due.answer("8 missing", 1, () -> x.slide(7, -1, 0));
        due.answer("8 notice", 2, () -> x.slide(1, 0, 0));
        due.answer("8 notice ahead of place", 2, () -> x.slide(1, -1, 0));
        for (int bad : BAD_HOOKS) {
            due.thrown("8 hook " + bad, ILLEGAL, () -> x.slide(bad, 0, 0));
        }
    }

    private static void promise9Turn() {
        DutyRota x = staffed();
        row(x, 0, 3, 1, 2, 3, 4, 5);
        due.answer("9 by 2", 0, () -> x.turn(0, 2));
        sees("9 by 2", x, 0, 3, 4, 5, 1, 2);
        due.answer("9 by 4", 0, () -> x.turn(0, 4));
        sees("9 by 4", x, 0, 2, 3, 4, 5, 1);
        due.answer("9 by 0", 0, () -> x.turn(0, 0));
        due.answer("9 by all", 0, () -> x.turn(0, 5));
        sees("9 by 0 and all", x, 0, 2, 3, 4, 5, 1);
        row(x, 1, 1, 0, -1, -1);
        due.answer("9 roster", 0, () -> x.turn(1, 1));
        sees("9 roster", x, 1, -1, -1, 0);
        for (int k : new int[] {-1, 6, MAX, MIN}) {
            due.answer("9 by " + k, 3, () -> x.turn(0, k));
        }
        sees("9 refused, unchanged", x, 0, 2, 3, 4, 5, 1);
        x.hang(2, 4, 0);
        due.answer("9 row of 0", 0, () -> x.turn(2, 0));
        due.answer("9 row of 0 by 1", 3, () -> x.turn(2, 1));
        due.answer("9 missing", 1, () -> x.turn(7, -1));
        x.hang(3, 5, 0);
        due.answer("9 notice", 2, () -> x.turn(3, 0));
        due.answer("9 notice ahead of place", 2, () -> x.turn(3, -1));
        x.hang(4, 4, 40);
        x.note(4, 39, 8);
        due.answer("9 forty", 0, () -> x.turn(4, 39));
        due.answer("9 forty turned", 8, () -> x.at(4, 0));
        for (int bad : BAD_HOOKS) {
            due.thrown("9 hook " + bad, ILLEGAL, () -> x.turn(bad, 0));
        }
    }

    private static void promise10Join() {
        DutyRota x = staffed();
        row(x, 0, 3, 1, 2);
        row(x, 1, 3, 3, 4, 5);
        row(x, 2, 3, 9, 9, 9, 9, 9, 9);
        due.answer("10 join", 0, () -> x.join(0, 1, 2));
        sees("10 joined", x, 2, 1, 2, 3, 4, 5, 9);
        due.answer("10 one twice", 0, () -> x.join(1, 1, 2));
        sees("10 joined twice", x, 2, 3, 4, 5, 3, 4, 5);
        x.hang(3, 3, 0);
        due.answer("10 a row of 0 first", 0, () -> x.join(3, 0, 2));
        due.answer("10 a row of 0 last", 0, () -> x.join(0, 3, 2));
        sees("10 joined with 0", x, 2, 1, 2, 5, 3, 4, 5);
        row(x, 4, 0, 0, 2);
        row(x, 5, 1, 0, 0, 0);
        row(x, 6, 2, 1);
        due.answer("10 stops in the first", 2, () -> x.join(4, 6, 5));
        sees("10 stopped in the first", x, 5, 0, 0, 0);
        row(x, 4, 0, -1, 0);
        due.answer("10 stops in the second", 2, () -> x.join(4, 6, 5));
        sees("10 stopped in the second", x, 5, -1, 0, 0);
        row(x, 7, 0, 2, 2, 2);
        due.answer("10 rosters of all makes", 0, () -> x.join(6, 4, 7));
        sees("10 rosters joined", x, 7, 1, -1, 0);
    }

    private static void promise10JoinRefusals() {
        DutyRota x = new DutyRota();
        row(x, 0, 3, 1, 2);
        row(x, 1, 3, 3, 4);
        row(x, 2, 3, 9, 9, 9);
        x.hang(3, 5, 0);
        x.hang(4, 4, 1);
        due.answer("10 a missing", 1, () -> x.join(7, 1, 2));
        due.answer("10 to missing", 1, () -> x.join(0, 1, 7));
        due.answer("10 a notice, to missing", 1, () -> x.join(3, 1, 7));
        due.answer("10 a notice", 2, () -> x.join(3, 7, 2));
        due.answer("10 to notice", 2, () -> x.join(0, 1, 3));
        due.answer("10 a unlike", 2, () -> x.join(4, 7, 2));
        due.answer("10 a too long", 3, () -> x.join(2, 7, 1));
        sees("10 a refused, unchanged", x, 2, 9, 9, 9);
        due.answer("10 b too long", 3, () -> x.join(0, 1, 2));
        sees("10 b too long, a came", x, 2, 1, 2, 9);
        due.answer("10 b missing", 1, () -> x.join(1, 7, 2));
        sees("10 b missing, a came", x, 2, 3, 4, 9);
        due.answer("10 b notice", 2, () -> x.join(0, 3, 2));
        sees("10 b notice, a came", x, 2, 1, 2, 9);
        due.answer("10 b unlike", 2, () -> x.join(1, 4, 2));
        sees("10 b unlike, a came", x, 2, 3, 4, 9);
        for (int bad : BAD_HOOKS) {
            due.thrown("10 a " + bad, ILLEGAL, () -> x.join(bad, 1, 2));
            due.thrown("10 b " + bad, ILLEGAL, () -> x.join(0, bad, 2));
            due.thrown("10 to " + bad, ILLEGAL, () -> x.join(0, 1, bad));
        }
        sees("10 thrown, unchanged", x, 2, 3, 4, 9);
    }

    private static void promise10JoinOntoItself() {
        DutyRota x = new DutyRota();
        row(x, 0, 4, 1, 2, 3);
        row(x, 1, 4, 7);
        x.hang(2, 4, 0);
        due.answer("10 a is to", 0, () -> x.join(0, 2, 0));
        due.answer("10 a is to, b too long", 3, () -> x.join(0, 1, 0));
        sees("10 a is to, unchanged", x, 0, 1, 2, 3);
        due.answer("10 b is to", 0, () -> x.join(2, 0, 0));
        due.answer("10 b is to, too long", 3, () -> x.join(1, 0, 0));
        sees("10 b is to, a came", x, 0, 7, 2, 3);
        due.answer("10 all are one of 0", 0, () -> x.join(2, 2, 2));
    }

    private static void promise11Pay() {
        DutyRota x = staffed();
        row(x, 0, 0, 0, 1, 2, -1, 0);
        row(x, 1, 3, 10, 20, 30, 40, -1, 6);
        row(x, 2, 4, 1, 2, 3, 4, 5);
        due.answer("11 pay", 0, () -> x.pay(0, 1, 2));
        purses("11 paid", x, 10 * 3 + 1 - 3 + 5, 20 * 2 + 2, 30 + 3);
        due.answer("11 pay again", 0, () -> x.pay(0, 1, 2));
        purses("11 paid again", x, 66, 84, 66);
        row(x, 3, 1, 0);
        row(x, 4, 2, 1);
        row(x, 5, 3, MAX);
        row(x, 6, 4, 0);
        due.answer("11 doctors' roster", 0, () -> x.pay(3, 5, 6));
        due.answer("11 nurses' roster", 0, () -> x.pay(4, 5, 6));
        purses("11 as longs", x, 66 + 3L * MAX, 84 + 2L * MAX, 66);
        x.note(5, 0, 0);
        x.note(6, 0, Long.MAX_VALUE);
        due.answer("11 wraps", 0, () -> x.pay(3, 5, 6));
        purses("11 wrapped", x, 66 + 3L * MAX + Long.MAX_VALUE, 84 + 2L * MAX, 66);
        x.hang(3, 2, 0);
        due.answer("11 roster of 0", 0, () -> x.pay(3, 5, 6));
    }

    private static void promise11PayRefusals() {
        DutyRota x = staffed();
        row(x, 0, 0, 0);
        row(x, 1, 3, 1);
        row(x, 2, 4, 1);
        x.hang(3, 5, 0);
        int[][] wrongs = {{1, 1, 2}, {2, 1, 2}, {3, 1, 2}, {0, 0, 2}, {0, 2, 2}, {0, 3, 2},
            {0, 1, 0}, {0, 1, 1}, {0, 1, 3}, {7, 2, 2}, {7, 7, 3}, {3, 7, 7}, {7, 0, 7}, {0, 7, 1}};
        for (int[] w : wrongs) {
            due.answer("11 kind " + w[0] + w[1] + w[2], 2, () -> x.pay(w[0], w[1], w[2]));
        }
        int[][] missing = {{7, 1, 2}, {0, 7, 2}, {0, 1, 7}, {7, 7, 7}, {7, 7, 2}};
        for (int[] m : missing) {
            due.answer("11 missing " + m[0] + m[1] + m[2], 1, () -> x.pay(m[0], m[1], m[2]));
        }
        x.hang(4, 0, 0);
        due.answer("11 missing with a roster of 0", 1, () -> x.pay(4, 7, 2));
        for (int bad : BAD_HOOKS) {
            due.thrown("11 roster " + bad, ILLEGAL, () -> x.pay(bad, 1, 2));
            due.thrown("11 hours " + bad, ILLEGAL, () -> x.pay(0, bad, 2));
            due.thrown("11 pays " + bad, ILLEGAL, () -> x.pay(0, 1, bad));
            due.thrown("11 hook ahead of kind " + bad, ILLEGAL, () -> x.pay(3, 3, bad));
        }
        purses("11 nobody got anything", x, 0, 0, 0);
    }

    private static void promise11PayStops() {
        DutyRota x = staffed();
        row(x, 0, 0, 0, 1, 2);
        row(x, 1, 3, 10, 10, 10);
        row(x, 2, 4, 1);
        due.answer("11 pay too short", 3, () -> x.pay(0, 1, 2));
        purses("11 the first got theirs", x, 31, 0, 0);
        row(x, 1, 3, 10, 10);
        row(x, 2, 4, 1, 1, 1);
        due.answer("11 hours too short", 3, () -> x.pay(0, 1, 2));
        purses("11 the first two got theirs", x, 62, 21, 0);
        row(x, 0, 0, 2, 2, -1);
        due.answer("11 too short for nobody", 3, () -> x.pay(0, 1, 2));
        purses("11 the porter got both", x, 62, 21, 22);
        x.hang(1, 3, 0);
        due.answer("11 no hours at all", 3, () -> x.pay(0, 1, 2));
        purses("11 none got any", x, 62, 21, 22);
    }

    private static void promise12Look() {
        DutyRota x = new DutyRota();
        for (int m = 0; m <= 6; m++) {
            int make = m;
            x.hang(make, make, 3);
            due.answer("12 make " + m, make, () -> x.look(make, 0));
            due.answer("12 places " + m, make <= 4 ? 3 : -1, () -> x.look(make, 1));
            due.answer("12 least hook " + m, make == 6 ? -1 : make, () -> x.look(make, 2));
            for (int w : new int[] {-1, 3, MAX, MIN}) {
                due.answer("12 what " + w, -1, () -> x.look(make, w));
            }
        }
        x.share(5, 7);
        x.share(3, 6);
        x.share(6, 1);
        due.answer("12 shared notice", 5, () -> x.look(7, 2));
        due.answer("12 shared row", 1, () -> x.look(6, 2));
        due.answer("12 shared row in the middle", 1, () -> x.look(3, 2));
        x.hang(1, 3, 3);
        due.answer("12 another row", 1, () -> x.look(1, 2));
        due.answer("12 the row's next hook", 3, () -> x.look(6, 2));
        x.hang(5, 5, 0);
        due.answer("12 another notice", 7, () -> x.look(7, 2));
        x.hang(5, 6, 0);
        x.hang(7, 6, 0);
        due.answer("12 nothing is not shared", -1, () -> x.look(7, 2));
        for (int bad : BAD_HOOKS) {
            due.thrown("12 hook " + bad, ILLEGAL, () -> x.look(bad, 0));
            due.thrown("12 hook ahead of what " + bad, ILLEGAL, () -> x.look(bad, 9));
        }
    }

    private static void promise13At() {
        DutyRota x = staffed();
        row(x, 0, 0, 2, -1);
        row(x, 1, 3, MIN, MAX);
        row(x, 2, 4, Long.MIN_VALUE, Long.MAX_VALUE);
        sees("13 persons", x, 0, 2, -1);
        sees("13 ints", x, 1, MIN, MAX);
        sees("13 longs", x, 2, Long.MIN_VALUE, Long.MAX_VALUE);
        for (int h = 0; h <= 2; h++) {
            int hook = h;
            for (int i : new int[] {-1, 2, 39, 40, MAX, MIN}) {
                due.thrown("13 place " + i, NO_ELEMENT, () -> x.at(hook, i));
            }
        }
        x.hang(3, 5, 4);
        due.thrown("13 notice", NO_ELEMENT, () -> x.at(3, 0));
        due.thrown("13 nothing", NO_ELEMENT, () -> x.at(4, 0));
        x.hang(5, 0, 0);
        due.thrown("13 row of 0", NO_ELEMENT, () -> x.at(5, 0));
        for (int bad : BAD_HOOKS) {
            due.thrown("13 hook " + bad, ILLEGAL, () -> x.at(bad, 0));
            due.thrown("13 hook ahead of place " + bad, ILLEGAL, () -> x.at(bad, -1));
        }
    }

    private static void promise14Person() {
        DutyRota x = staffed();
        row(x, 0, 0, 0, 1, 0);
        row(x, 1, 1, 0, -1);
        row(x, 2, 3, 0, 0, 1);
        row(x, 3, 4, 0, 1, 2);
        x.share(0, 6);
        for (int p = 0; p <= 2; p++) {
            int number = p;
            due.answer("14 kind " + p, number, () -> x.person(number, 0));
            due.answer("14 purse " + p, 0, () -> x.person(number, 1));
            for (int w : new int[] {-1, 3, MAX, MIN}) {
                due.answer("14 what " + w, -1, () -> x.person(number, w));
            }
        }
        stands("14 on the wall", x, 3, 1, 0);
        x.hang(0, 6, 0);
        stands("14 still on hook 6", x, 3, 1, 0);
        x.hang(6, 5, 0);
        stands("14 off the wall", x, 1, 0, 0);
        x.hang(6, 0, 3);
        stands("14 a new roster is empty", x, 1, 0, 0);
        x.turn(1, 1);
        x.slide(1, 1, 1);
        stands("14 fell off", x, 0, 0, 0);
        for (int p : new int[] {-1, 3, 60, MAX, MIN}) {
            due.thrown("14 person " + p, NO_ELEMENT, () -> x.person(p, 0));
            due.thrown("14 person ahead of what " + p, NO_ELEMENT, () -> x.person(p, 9));
        }
    }

    private static void promise15Count() {
        DutyRota x = new DutyRota();
        for (int n = 0; n < 70; n++) {
            due.answer("15 count", Math.min(n, 60), x::count);
            x.hire(-1);
            x.hire(n % 3);
        }
    }

    /** A new object with a doctor 0, a nurse 1 and a porter 2. */
    private static DutyRota staffed() {
        DutyRota x = new DutyRota();
        x.hire(0);
        x.hire(1);
        x.hire(2);
        return x;
    }

    private static void row(DutyRota x, int hook, int make, long... values) {
        due.answer("row hangs", 0, () -> x.hang(hook, make, values.length));
        for (int i = 0; i < values.length; i++) {
            int place = i;
            LongSupplier fill = make <= 2
                ? () -> x.put(hook, place, (int) values[place])
                : () -> x.note(hook, place, values[place]);
            due.answer("row is filled", 0, fill);
        }
    }

    private static void sees(String name, DutyRota x, int hook, long... want) {
        due.answer(name + ": places", want.length, () -> x.look(hook, 1));
        for (int i = 0; i < want.length; i++) {
            int place = i;
            due.answer(name + ": place " + i, want[i], () -> x.at(hook, place));
        }
    }

    private static void purses(String name, DutyRota x, long... want) {
        for (int p = 0; p < want.length; p++) {
            int number = p;
            due.answer(name + ": purse " + p, want[p], () -> x.person(number, 1));
        }
    }

    private static void stands(String name, DutyRota x, long... want) {
        for (int p = 0; p < want.length; p++) {
            int number = p;
            due.answer(name + ": places of " + p, want[p], () -> x.person(number, 2));
        }
    }
}
