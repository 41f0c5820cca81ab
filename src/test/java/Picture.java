import java.util.ArrayList;
import java.util.Arrays;
import java.util.Collections;
import java.util.List;

/**
 * All that can be seen of a wall, as texts. A hook is "all 0 - 2", "doctors ..", "nurses ..",
 * "hours 7 8", "pay ..", "notice", "nothing", or "as 3" if it holds what hook 3 holds. A person is
 * "doctor 31": the kind and the purse.
 */
final class Picture {
    private static final int HOOKS = 8;
    private static final int NOTHING = 6;
    private static final List<String> MAKES =
        List.of("all", "doctors", "nurses", "hours", "pay", "notice", "nothing");
    private static final List<String> KINDS = List.of("doctor", "nurse", "porter");

    final List<String> hooks;
    final List<String> persons;
    private final List<Long> standings;

    private Picture(List<String> hooks, List<String> persons, List<Long> standings) {
        this.hooks = hooks;
        this.persons = persons;
        this.standings = standings;
    }

    /** What is due: where somebody stands is counted in the hooks' texts. */
    static Picture due(List<String> hooks, List<String> persons) {
        List<String> all = new ArrayList<>(hooks);
        while (all.size() < HOOKS) {
            all.add("nothing");
        }
        List<Long> standings = new ArrayList<>();
        for (int p = 0; p < persons.size(); p++) {
            standings.add(standings(all, Integer.toString(p)));
        }
        return new Picture(all, persons, standings);
    }

    static Picture seen(Subject x) {
        List<String> hooks = new ArrayList<>();
        for (int hook = 0; hook < HOOKS; hook++) {
            hooks.add(hook(x, hook, hooks));
        }
        List<String> persons = new ArrayList<>();
        List<Long> standings = new ArrayList<>();
        long hired = x.ask("count");
        for (long p = 0; p < hired; p++) {
            persons.add(KINDS.get((int) x.ask("person", p, 0)) + " " + x.ask("person", p, 1));
            standings.add(x.ask("person", p, 2));
        }
        return new Picture(hooks, persons, standings);
    }

    /** Hires the persons ("doctor") and hangs the hooks of these texts. */
    static void paint(Subject x, List<String> hooks, List<String> kinds) {
        for (String kind : kinds) {
            x.ask("hire", KINDS.indexOf(kind));
        }
        for (int hook = 0; hook < hooks.size(); hook++) {
            hang(x, hook, hooks.get(hook).split(" "));
        }
    }

    private static void hang(Subject x, int hook, String[] words) {
        if (words[0].equals("as")) {
            x.ask("share", Long.parseLong(words[1]), hook);
            return;
        }
        int make = MAKES.indexOf(words[0]);
        if (make != NOTHING) {
            x.ask("hang", hook, make, words.length - 1);
        }
        for (int i = 1; i < words.length; i++) {
            if (!words[i].equals("-")) {
                x.ask(isRoster(words[0]) ? "put" : "note", hook, i - 1, Long.parseLong(words[i]));
            }
        }
    }

    private static String hook(Subject x, int hook, List<String> lesser) {
        String make = MAKES.get((int) x.ask("look", hook, 0));
        long size = x.ask("look", hook, 1);
        int least = (int) x.ask("look", hook, 2);
        StringBuilder text = new StringBuilder(make);
        for (long i = 0; i < size; i++) {
            long value = x.ask("at", hook, i);
            text.append(' ').append(isRoster(make) && value == -1 ? "-" : Long.toString(value));
        }
        boolean row = MAKES.indexOf(make) <= MAKES.indexOf("pay");
        if (row ? size < 0 : size != -1) {
            text.append(" with places: ").append(size);
        }
        boolean nothing = make.equals("nothing");
        if (nothing ? least == -1 : least == hook) {
            return text.toString();
        }
        boolean asLesser = !nothing && least >= 0 && least < hook && text.toString().equals(lesser.get(least));
        return asLesser ? "as " + least : text + " of the least hook " + least;
    }

    private static boolean isRoster(String make) {
        return MAKES.indexOf(make) <= MAKES.indexOf("nurses");
    }

    private static long standings(List<String> hooks, String person) {
        long found = 0;
        for (String hook : hooks) {
            List<String> words = Arrays.asList(hook.split(" "));
            if (MAKES.contains(words.get(0)) && isRoster(words.get(0))) {
                found += Collections.frequency(words, person);
            }
        }
        return found;
    }

    @Override
    public String toString() {
        return hooks + " " + persons + " standing at " + standings;
    }
}
