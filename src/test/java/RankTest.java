/** Promise 11: rank. */
public final class RankTest {
    private RankTest() {
    }

    public static void main(String[] args) {
        namesBefore();
        itsOwnNameIsNotBefore();
        beginningsAreBefore();
        noneAndAll();
        itChangesNothing();
        whenPowerIsOff();
        Checks.end();
    }

    private static void dueRank(ListedNames x, String name, int want) {
        Checks.hand(x, name);
        Checks.due("rank() of " + name, x.rank(), want);
    }

    private static void namesBefore() {
        Checks.of("How many entries have a name before the one at hand");
        ListedNames x = Scenes.with("\u0080", "d", "b", "\u007f");
        dueRank(x, "a", 0);
        dueRank(x, "c", 1);
        dueRank(x, "e", 2);
        dueRank(x, "\u007f\u00ff", 3);
        dueRank(x, "\u0081", 4);
        Checks.hand(x, "b");
        x.remove();
        dueRank(x, "c", 0);
        Checks.hand(x, "a");
        x.rename(1);
        dueRank(x, "c", 1);
    }

    private static void itsOwnNameIsNotBefore() {
        Checks.of("a name before the one at hand: the same is not before");
        ListedNames x = Scenes.with("b", "c", "d");
        dueRank(x, "b", 0);
        dueRank(x, "c", 1);
        dueRank(x, "d", 2);
    }

    private static void beginningsAreBefore() {
        Checks.of("a beginning of a name comes before it");
        ListedNames x = Scenes.with("bb", "b", "bbb");
        String[] names = {"a", "b", "ba\u00ff", "bb", "bb\u0001", "bba", "bbb", "bbbb", "bc", "c"};
        int[] ranks = {0, 0, 1, 1, 2, 2, 2, 3, 3, 3};
        for (int i = 0; i < names.length; i++) {
            dueRank(x, names[i], ranks[i]);
        }
        ListedNames seven = Scenes.with("A", "Ab", "Abc", "Abcd", "Abcde", "Abcdef", "Abcdefg");
        for (int length = 1; length <= 7; length++) {
            dueRank(seven, "Abcdefg".substring(0, length), length - 1);
        }
        dueRank(seven, "Abcdefh", 7);
        dueRank(seven, "Abcdeff", 6);
    }

    private static void noneAndAll() {
        Checks.of("How many entries: from none to 24");
        Checks.due("rank() of no entries", new ListedNames().rank(), 0);
        ListedNames x = Scenes.crowd(24, 0);
        dueRank(x, "\u0001", 0);
        dueRank(x, "A", 0);
        dueRank(x, "\u00de", 22);
        dueRank(x, "\u00df", 23);
        dueRank(x, "\u00e0", 24);
        dueRank(x, "\u00ff\u00ff\u00ff\u00ff\u00ff\u00ff\u00ff", 24);
    }

    private static void itChangesNothing() {
        Checks.of("rank: a question, no change");
        ListedNames x = Scenes.with("A", "B");
        x.next(0);
        x.failAfter(0);
        Checks.due("rank()", x.rank(), 1);
        Checks.due("found(): it finds none", x.found(), 65);
        Checks.due("isOn(): it makes no write", x.isOn(), true);
    }

    private static void whenPowerIsOff() {
        Checks.of("IllegalStateException when power is off");
        ListedNames x = Scenes.off("A", "B");
        Checks.dueOff("rank()", x::rank);
        Checks.hand(x, "C");
        Checks.dueOff("rank() of a name that is not there", x::rank);
        x.start();
        Checks.due("rank() when started", x.rank(), 2);
        Checks.dueOff("rank() of no entries", Scenes.off()::rank);
    }
}
