import java.util.NoSuchElementException;

public final class DutyRota {
    public static final int NONE = -1;

    private static final int HOOKS = 8;
    private static final int MOST_PLACES = 40;
    private static final int MOST_PERSONS = 60;

    private static final int ROSTER = 0;
    private static final int NURSES_ROSTER = 2;
    private static final int HOURS = 3;
    private static final int PAY = 4;
    private static final int NOTHING = 6;

    private static final int PORTER = 2;
    private static final int[] RATES = {3, 2, 1};

    private static final int DONE = 0;
    private static final int MISSING = 1;
    private static final int KIND = 2;
    private static final int PLACE = 3;
    private static final int SIZE = 4;

    /** What a hook can hold. Rosters keep persons' numbers, hours their ints, all in longs. */
    private static final class Sheet {
        private final long[] places;
        private int make;
        private int size;

        private Sheet(int most) {
            places = new long[most];
            make = NOTHING;
            size = 0;
        }

        private void become(int newMake, int newSize) {
            make = newMake;
            size = newSize;
            blank(0, newSize);
        }

        private boolean isNothing() {
            return make == NOTHING;
        }

        private boolean isRow() {
            return make <= PAY;
        }

        private boolean isRoster() {
            return make <= NURSES_ROSTER;
        }

        /** Equal for rows that are alike, whichever rosters they are. */
        private int family() {
            return isRoster() ? ROSTER : make;
        }

        private boolean hasPlace(int i) {
            return i >= 0 && i < size;
        }

        private boolean hasSpan(int i, int n) {
            return i >= 0 && n >= 0 && (long) i + n <= size;
        }

        private void blank(int from, int end) {
            long empty = isRoster() ? NONE : 0;
            for (int i = from; i < end; i++) {
                places[i] = empty;
            }
        }
    }

    private final Sheet nothing;
    private final Sheet[] hooks;
    private final Sheet[] sheets;
    private final long[] taken;
    private final int[] kinds;
    private final long[] purses;
    private int hired;

    public DutyRota() {
        nothing = new Sheet(0);
        hooks = new Sheet[HOOKS];
        for (int h = 0; h < HOOKS; h++) {
            hooks[h] = nothing;
        }
        sheets = new Sheet[HOOKS + 1];
        for (int s = 0; s <= HOOKS; s++) {
            sheets[s] = new Sheet(MOST_PLACES);
        }
        taken = new long[MOST_PLACES];
        kinds = new int[MOST_PERSONS];
        purses = new long[MOST_PERSONS];
        hired = 0;
    }

    public int hang(int hook, int make, int n) throws IllegalArgumentException {
        requireHook(hook);
        requireMake(make);
        if (n > MOST_PLACES) {
            throw new IllegalArgumentException("too many places");
        }
        if (make == NOTHING) {
            hooks[hook] = nothing;
            return DONE;
        }
        boolean row = make <= PAY;
        if (row && n < 0) {
            return SIZE;
        }
        Sheet sheet = idleSheet();
        sheet.become(make, row ? n : 0);
        hooks[hook] = sheet;
        return DONE;
    }

    public int share(int from, int to) throws IllegalArgumentException {
        requireHook(from);
        requireHook(to);
        hooks[to] = hooks[from];
        return hooks[to].make;
    }

    public int hire(int kind) {
        if (kind < 0 || kind > PORTER || hired >= MOST_PERSONS) {
            return NONE;
        }
        int number = hired;
        kinds[number] = kind;
        hired = number + 1;
        return number;
    }

    public int put(int hook, int i, int person)
            throws IllegalArgumentException, NoSuchElementException {
        requireHook(hook);
        if (person != NONE) {
            requirePerson(person);
        }
        Sheet sheet = hooks[hook];
        if (sheet.isNothing()) {
            return MISSING;
        }
        if (!sheet.isRoster()) {
            return KIND;
        }
        if (!sheet.hasPlace(i)) {
            return PLACE;
        }
        if (!takes(sheet, person)) {
            return KIND;
        }
        sheet.places[i] = person;
        return DONE;
    }

    public int note(int hook, int i, long v) throws IllegalArgumentException {
        requireHook(hook);
        Sheet sheet = hooks[hook];
        if (sheet.isNothing()) {
            return MISSING;
        }
        if (sheet.make != HOURS && sheet.make != PAY) {
            return KIND;
        }
        if (!sheet.hasPlace(i)) {
            return PLACE;
        }
        sheet.places[i] = sheet.make == HOURS ? (int) v : v;
        return DONE;
    }

    public int copy(int from, int i, int to, int j, int n) throws IllegalArgumentException {
        requireHook(from);
        requireHook(to);
        return copySpan(hooks[from], i, hooks[to], j, n);
    }

    public int slide(int hook, int i, int k) throws IllegalArgumentException {
        requireHook(hook);
        Sheet sheet = hooks[hook];
        if (sheet.isNothing()) {
            return MISSING;
        }
        if (!sheet.isRow()) {
            return KIND;
        }
        long goal = (long) i + k;
        if (i < 0 || i > sheet.size || goal < 0 || goal > sheet.size) {
            return PLACE;
        }
        if (k >= 0) {
            slideLater(sheet, i, k);
        } else {
            slideEarlier(sheet, i, -k);
        }
        return DONE;
    }

    public int turn(int hook, int k) throws IllegalArgumentException {
        requireHook(hook);
        Sheet sheet = hooks[hook];
        if (sheet.isNothing()) {
            return MISSING;
        }
        if (!sheet.isRow()) {
            return KIND;
        }
        if (k < 0 || k > sheet.size) {
            return PLACE;
        }
        int others = sheet.size - k;
        System.arraycopy(sheet.places, 0, taken, 0, k);
        System.arraycopy(sheet.places, k, sheet.places, 0, others);
        System.arraycopy(taken, 0, sheet.places, others, k);
        return DONE;
    }

    public int join(int a, int b, int to) throws IllegalArgumentException {
        requireHook(a);
        requireHook(b);
        requireHook(to);
        Sheet first = hooks[a];
        Sheet second = hooks[b];
        Sheet target = hooks[to];
        int answer = copySpan(first, 0, target, 0, first.size);
        if (answer != DONE) {
            return answer;
        }
        return copySpan(second, 0, target, first.size, second.size);
    }

    public int pay(int roster, int hours, int pays) throws IllegalArgumentException {
        requireHook(roster);
        requireHook(hours);
        requireHook(pays);
        Sheet staff = hooks[roster];
        Sheet worked = hooks[hours];
        Sheet extra = hooks[pays];
        if (isForeign(staff, ROSTER) || isForeign(worked, HOURS) || isForeign(extra, PAY)) {
            return KIND;
        }
        if (staff.isNothing() || worked.isNothing() || extra.isNothing()) {
            return MISSING;
        }
        for (int i = 0; i < staff.size; i++) {
            if (!worked.hasPlace(i) || !extra.hasPlace(i)) {
                return PLACE;
            }
            fillPurse(staff.places[i], worked.places[i], extra.places[i]);
        }
        return DONE;
    }

    public int look(int hook, int what) throws IllegalArgumentException {
        requireHook(hook);
        Sheet sheet = hooks[hook];
        switch (what) {
            case 0:
                return sheet.make;
            case 1:
                return sheet.isRow() ? sheet.size : NONE;
            case 2:
                return sheet.isNothing() ? NONE : leastHookWith(sheet);
            default:
                return NONE;
        }
    }

    public long at(int hook, int i) throws IllegalArgumentException, NoSuchElementException {
        requireHook(hook);
        Sheet sheet = hooks[hook];
        if (!sheet.isRow() || !sheet.hasPlace(i)) {
            throw new NoSuchElementException("no such place");
        }
        return sheet.places[i];
    }

    public long person(int p, int what) throws NoSuchElementException {
        requirePerson(p);
        switch (what) {
            case 0:
                return kinds[p];
            case 1:
                return purses[p];
            case 2:
                return placesOnWall(p);
            default:
                return NONE;
        }
    }

    public int count() {
        return hired;
    }

    private static void requireHook(int hook) {
        if (hook < 0 || hook >= HOOKS) {
            throw new IllegalArgumentException("no such hook");
        }
    }

    private static void requireMake(int make) {
        if (make < 0 || make > NOTHING) {
            throw new IllegalArgumentException("no such make");
        }
    }

    private void requirePerson(int p) {
        if (!isHired(p)) {
            throw new NoSuchElementException("no such person");
        }
    }

    private boolean isHired(long p) {
        return p >= 0 && p < hired;
    }

    /** Eight hooks hold eight sheets at most, so one of the nine always hangs nowhere. */
    private Sheet idleSheet() {
        for (int s = 0; s < HOOKS; s++) {
            if (leastHookWith(sheets[s]) == NONE) {
                return sheets[s];
            }
        }
        return sheets[HOOKS];
    }

    private int leastHookWith(Sheet sheet) {
        for (int h = 0; h < HOOKS; h++) {
            if (hooks[h] == sheet) {
                return h;
            }
        }
        return NONE;
    }

    /** Hours and pay take every number; in a roster it is a person's or nobody's. */
    private boolean takes(Sheet sheet, long value) {
        if (sheet.make == ROSTER || !sheet.isRoster() || !isHired(value)) {
            return true;
        }
        // The two rosters of one kind stand in the makes one behind their kind.
        return kinds[(int) value] == sheet.make - 1;
    }

    private static boolean areAlike(Sheet a, Sheet b) {
        return a.isRow() && b.isRow() && a.family() == b.family();
    }

    private static boolean isForeign(Sheet sheet, int family) {
        return !sheet.isNothing() && sheet.family() != family;
    }

    private int copySpan(Sheet source, int i, Sheet target, int j, int n) {
        if (source.isNothing() || target.isNothing()) {
            return MISSING;
        }
        if (!areAlike(source, target)) {
            return KIND;
        }
        if (!source.hasSpan(i, n) || !target.hasSpan(j, n)) {
            return PLACE;
        }
        // Source and target may be one row: all is taken before the first one comes.
        System.arraycopy(source.places, i, taken, 0, n);
        for (int p = 0; p < n; p++) {
            if (!takes(target, taken[p])) {
                return KIND;
            }
            target.places[j + p] = taken[p];
        }
        return DONE;
    }

    private static void slideLater(Sheet sheet, int i, int k) {
        System.arraycopy(sheet.places, i, sheet.places, i + k, sheet.size - i - k);
        sheet.blank(i, i + k);
    }

    private static void slideEarlier(Sheet sheet, int i, int k) {
        System.arraycopy(sheet.places, i, sheet.places, i - k, sheet.size - i);
        sheet.blank(sheet.size - k, sheet.size);
    }

    private void fillPurse(long person, long hours, long extra) {
        if (isHired(person)) {
            int p = (int) person;
            purses[p] += hours * RATES[kinds[p]] + extra;
        }
    }

    private int placesOnWall(int p) {
        int found = 0;
        for (int h = 0; h < HOOKS; h++) {
            Sheet sheet = hooks[h];
            // A row on several hooks is counted at the least of them alone.
            if (sheet.isRoster() && leastHookWith(sheet) == h) {
                found += placesWith(sheet, p);
            }
        }
        return found;
    }

    private static int placesWith(Sheet roster, int p) {
        int found = 0;
        for (int i = 0; i < roster.size; i++) {
            if (roster.places[i] == p) {
                found++;
            }
        }
        return found;
    }
}
