import java.util.NoSuchElementException;

/** Promises 7 (find), 8 (serial), 9 (next), 10 (listed), 11 (rank), 12 (found), 13 (count), 14 (free). */
public final class QuestionsTest {
    private QuestionsTest() {
    }

    public static void main(String[] args) {
        find();
        serial();
        next();
        listed();
        listedOrder();
        rank();
        found();
        count();
        free();
        Checks.end();
    }

    private static void find() {
        ListedNames x = new ListedNames();
        Checks.dueThrow("find() of nothing", NoSuchElementException.class, x::find);
        int[] targets = {0, -1, -2, -3, Integer.MIN_VALUE, Integer.MAX_VALUE};
        for (int i = 0; i < targets.length; i++) {
            Checks.enter(x, "n" + (char) ('a' + i), targets[i]);
        }
        for (int i = 0; i < targets.length; i++) {
            Checks.hand(x, "n" + (char) ('a' + i));
            Checks.due("find()", x.find(), targets[i]);
        }
        String[] absent = {"n", "na\u0001", "N", "an", "ng"};
        for (String name : absent) {
            Checks.hand(x, name);
            Checks.dueThrow("find() of \"" + name + "\"", NoSuchElementException.class, x::find);
        }
    }

    private static void serial() {
        ListedNames x = new ListedNames();
        Checks.due("serial() of nothing", x.serial(), ListedNames.NONE);
        Checks.enter(x, "b", 10);
        Checks.enter(x, "a", 20);
        Checks.due("serial()", x.serial(), 2);
        Checks.hand(x, "b");
        Checks.due("serial()", x.serial(), 1);
        Checks.hand(x, "bb");
        Checks.due("serial() of a longer name", x.serial(), ListedNames.NONE);
        Checks.due("found(): serial() finds nothing", x.found(), 0);
    }

    private static void next() {
        ListedNames x = new ListedNames();
        Checks.due("next(MIN) of nothing", x.next(Integer.MIN_VALUE), ListedNames.NONE);
        Checks.enter(x, "d", 1);
        Checks.enter(x, "c", 2);
        Checks.enter(x, "b", 3);
        Checks.enter(x, "a", 4);
        Checks.hand(x, "c");
        x.remove();
        Checks.due("next(MIN)", x.next(Integer.MIN_VALUE), 1);
        Checks.due("next(-1)", x.next(-1), 1);
        Checks.due("next(0)", x.next(0), 1);
        Checks.due("found()", x.found(), Checks.word("d"));
        Checks.due("next(1): a removed one is left out", x.next(1), 3);
        Checks.due("found()", x.found(), Checks.word("b"));
        Checks.due("next(2)", x.next(2), 3);
        Checks.due("next(3)", x.next(3), 4);
        Checks.due("next(4)", x.next(4), ListedNames.NONE);
        Checks.due("found(): none", x.found(), 0);
        Checks.due("next(MAX)", x.next(Integer.MAX_VALUE), ListedNames.NONE);
        Checks.hand(x, "zz");
        Checks.due("rename(1)", x.rename(1), 1);
        Checks.due("next(0): goes on through renames", x.next(0), 1);
    }

    private static void listed() {
        ListedNames x = new ListedNames();
        Checks.enter(x, "b", 0);
        Checks.enter(x, "ab", 0);
        Checks.enter(x, "abd", 0);
        Checks.enter(x, "abc", 0);
        Checks.enter(x, "a", 0);
        Checks.enter(x, "ac", 0);
        Checks.hand(x, "abd");
        dueList(x, 0, 5, 2, 4, 3, 6, 1);
        dueList(x, 1, 5, 2, 4, 3, 6);
        dueList(x, 2, 2, 4, 3);
        dueList(x, 3, 3);
        Checks.due("listed(0, 1)", x.listed(0, 1), 5);
        int[] wrong = {-1, 4, 7, Integer.MIN_VALUE, Integer.MAX_VALUE};
        for (int n : wrong) {
            Checks.dueThrow("listed(0, " + n + ")", IllegalArgumentException.class, () -> x.listed(0, n));
        }
        Checks.due("found(): a wrong n leaves it", x.found(), Checks.word("a"));
        Checks.hand(x, "aa");
        dueList(x, 2);
        Checks.hand(x, "c");
        dueList(x, 1);
        dueList(x, 0, 5, 2, 4, 3, 6, 1);
    }

    /** Asks for each due serial and for the numbers outside of the list. */
    private static void dueList(ListedNames x, int n, int... serials) {
        for (int k = 0; k < serials.length; k++) {
            Checks.due("listed(" + k + ", " + n + ")", x.listed(k, n), serials[k]);
            Checks.due("found() is not none", x.found() != 0, true);
        }
        int[] outside = {serials.length, serials.length + 1, 23, 24, -1, Integer.MIN_VALUE, Integer.MAX_VALUE};
        for (int k : outside) {
            x.next(0);
            Checks.due("listed(" + k + ", " + n + ")", x.listed(k, n), ListedNames.NONE);
            Checks.due("found(): none", x.found(), 0);
        }
    }

    private static void listedOrder() {
        ListedNames x = new ListedNames();
        String[] ordered = {"\u0001", "\u0001\u0001", "\u0001\u00ff", ".", "0", "\u007f", "\u0080", "\u00ff",
            "\u00ff\u0001", "\u00ff\u00ff", "\u00ff\u00ff\u00ff\u00ff\u00ff\u00ff\u00ff"};
        for (int i = ordered.length - 1; i >= 0; i--) {
            Checks.enter(x, ordered[i], i);
        }
        for (int i = 0; i < ordered.length; i++) {
            Checks.due("listed(): bytes without sign", x.listed(i, 0), ordered.length - i);
            Checks.due("found()", x.found(), Checks.word(ordered[i]));
            Checks.hand(x, ordered[i]);
            Checks.due("rank()", x.rank(), i);
        }
    }

    private static void rank() {
        ListedNames x = new ListedNames();
        Checks.due("rank() of nothing", x.rank(), 0);
        Checks.enter(x, "bb", 0);
        Checks.enter(x, "b", 0);
        Checks.enter(x, "bbb", 0);
        String[] names = {"a", "b", "ba\u00ff", "bb", "bba", "bbb", "bbbb", "c"};
        int[] ranks = {0, 0, 1, 1, 2, 2, 3, 3};
        for (int i = 0; i < names.length; i++) {
            Checks.hand(x, names[i]);
            Checks.due("rank() of " + names[i], x.rank(), ranks[i]);
        }
    }

    private static void found() {
        ListedNames x = new ListedNames();
        x.add(1);
        Checks.due("found(): add finds nothing", x.found(), 0);
        x.next(0);
        x.name(Checks.word("wxyzwxy"), 7);
        Checks.due("found()", x.found(), 65);
        x.rename(1);
        Checks.due("found(): the name that it has now", x.found(), Checks.word("wxyzwxy"));
        Checks.enter(x, "A", 2);
        Checks.due("found(): not the one with the old name", x.found(), Checks.word("wxyzwxy"));
        x.find();
        x.serial();
        x.rank();
        x.replace(8);
        Checks.due("start() when power is on", x.start(), false);
        Checks.due("found(): as before", x.found(), Checks.word("wxyzwxy"));
        Checks.hand(x, "wxyzwxy");
        x.remove();
        Checks.due("found(): removed", x.found(), 0);
        x.add(3);
        Checks.due("found(): the name is back with another serial", x.found(), 0);
    }

    private static void count() {
        ListedNames x = new ListedNames();
        for (int i = 1; i <= 24; i++) {
            Checks.enter(x, String.valueOf((char) (64 + i)), i);
            Checks.due("count()", x.count(), i);
        }
        Checks.enter(x, "z", 0);
        Checks.due("count()", x.count(), 24);
        x.rename(5);
        Checks.due("count()", x.count(), 24);
        x.remove();
        Checks.due("count()", x.count(), 23);
        x.remove();
        Checks.due("count()", x.count(), 23);
    }

    private static void free() {
        ListedNames x = new ListedNames();
        String[] names = {"abcdefg", "abcdefh", "abx", "abcd", "abcdef", "ab", "y"};
        int[] free = {56, 52, 49, 47, 46, 45, 43};
        for (int i = 0; i < names.length; i++) {
            Checks.enter(x, names[i], i);
            Checks.due("free() with " + names[i], x.free(), free[i]);
        }
        Checks.hand(x, "abcdef");
        x.remove();
        Checks.due("free(): the place stays, the serial's goes", x.free(), 44);
        Checks.hand(x, "abcdefh");
        x.remove();
        Checks.due("free(): the common beginning goes, too", x.free(), 47);
        x.replace(5);
        Checks.hand(x, "abcdefg");
        x.rename(7);
        Checks.due("free()", x.free(), 47);
    }
}
