import java.util.function.ToIntFunction;

/** Directories that tests begin with, and the whole of a directory told as a text. */
final class Scenes {
    private static final String DEEPEST = "Abcdefg";

    private Scenes() {
    }

    /** The entries get the serials from 1 on, and the targets from 101 on; the last name is at hand. */
    static ListedNames with(String... names) {
        ListedNames x = new ListedNames();
        for (int i = 0; i < names.length; i++) {
            if (i > 0 || !names[i].equals("A")) {
                Checks.hand(x, names[i]);
            }
            Checks.due("add of " + names[i], x.add(101 + i), i + 1);
        }
        return x;
    }

    /** The crowd's names, with 57 - 2 * entries - pairs pages free. */
    static ListedNames crowd(int entries, int pairs) {
        ListedNames x = with(crowdNames(entries, pairs));
        Checks.due("free() in a crowd", x.free(), 57 - 2 * entries - pairs);
        return x;
    }

    static ListedNames crowd(int entries, int pairs, String nameAtHand) {
        ListedNames x = crowd(entries, pairs);
        Checks.hand(x, nameAtHand);
        return x;
    }

    /**
     * The seven beginnings of "Abcdefg" (their serials will be 1 to 7), pairs with a common first
     * byte ("qA" with the serial 8, "qB", "rA" and on), and then names of a single byte above 206.
     */
    static String[] crowdNames(int entries, int pairs) {
        String[] names = new String[entries];
        for (int i = 0; i < entries; i++) {
            names[i] = crowdName(i, pairs);
        }
        return names;
    }

    private static String crowdName(int i, int pairs) {
        if (i < 7) {
            return DEEPEST.substring(0, i + 1);
        }
        if (i < 7 + 2 * pairs) {
            return "" + (char) ('q' + (i - 7) / 2) + (char) ('A' + (i - 7) % 2);
        }
        return String.valueOf((char) (200 + i));
    }

    /** Power is off: it failed at the first write of a change. */
    static ListedNames off(String... names) {
        ListedNames x = with(names);
        x.failAfter(0);
        Checks.due("a change when power fails", names.length == 0 ? x.add(1) : x.replace(1), ListedNames.CUT);
        return x;
    }

    /** All that can be asked about the entries; the name at hand and the entry found are others then. */
    static String told(ListedNames x) {
        int count = x.count();
        StringBuilder text = new StringBuilder();
        text.append(count).append(" entries, ").append(x.free()).append(" pages free, listed");
        for (int k = 0; k < count; k++) {
            text.append(' ').append(x.listed(k, 0));
        }
        for (int at = x.next(0); at != ListedNames.NONE; at = x.next(at)) {
            long word = x.found();
            x.name(word, (71 - Long.numberOfLeadingZeros(word)) / 8);
            text.append("; ").append(at).append(' ').append(Long.toHexString(word)).append(' ').append(x.find());
        }
        return text.toString();
    }

    /** A change that is refused: it answers FULL, makes no write and leaves all as it was. */
    static void dueFull(String call, ListedNames x, ListedNames twin, ToIntFunction<ListedNames> change) {
        int writes = x.writes();
        x.failAfter(0);
        Checks.due(call, change.applyAsInt(x), ListedNames.FULL);
        Checks.due("isOn() behind FULL", x.isOn(), true);
        Checks.due("writes() behind FULL", x.writes(), writes);
        Checks.due("all behind FULL", told(x), told(twin));
    }

    /** A change that holds, with so many pages and the last write. */
    static void dueHolds(String call, ListedNames x, int pages, int answer, ToIntFunction<ListedNames> change) {
        Checks.due(call, change.applyAsInt(x), answer);
        Checks.due("writes() of " + call, x.writes(), pages + 1);
    }
}
