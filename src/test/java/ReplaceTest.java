/** Promise 5: replace. */
public final class ReplaceTest {
    private ReplaceTest() {
    }

    public static void main(String[] args) {
        anotherTarget();
        itsSerial();
        theSameTarget();
        noneWhenThereIsNone();
        full();
        cut();
        whenPowerIsOff();
        Checks.end();
    }

    private static void anotherTarget() {
        Checks.of("The entry with the name at hand gets another target");
        ListedNames x = Scenes.with("a", "ab", "abc");
        Checks.hand(x, "ab");
        int[] targets = {0, -1, -2, -3, Integer.MIN_VALUE, Integer.MAX_VALUE, 7};
        for (int target : targets) {
            Checks.due("replace(" + target + ")", x.replace(target), 2);
            Checks.due("find()", x.find(), target);
        }
        Checks.due("all", Scenes.told(x), "3 entries, 51 pages free, listed 1 2 3; "
                + "1 61 101; 2 6261 7; 3 636261 103");
    }

    private static void itsSerial() {
        Checks.of("its serial");
        ListedNames x = Scenes.with("c", "b", "a");
        Checks.due("replace(5) of a", x.replace(5), 3);
        Checks.hand(x, "c");
        Checks.due("replace(5) of c", x.replace(5), 1);
        Checks.hand(x, "d");
        Checks.due("rename(2)", x.rename(2), 2);
        Checks.due("replace(5) of d", x.replace(5), 2);
    }

    private static void theSameTarget() {
        Checks.of("gets another target: one that is the same is written, too");
        ListedNames x = Scenes.with("A");
        Checks.due("replace(101)", x.replace(101), 1);
        Checks.due("writes()", x.writes(), 3);
        x.failAfter(2);
        Checks.due("replace(101) with 2 writes left", x.replace(101), ListedNames.CUT);
    }

    private static void noneWhenThereIsNone() {
        Checks.of("NONE when there is none");
        Checks.due("replace(5) of no entries", new ListedNames().replace(5), ListedNames.NONE);
        ListedNames x = Scenes.with("mm", "mmmm");
        String[] absent = {"m", "mmm", "ml", "mn", "mmmmm", "mm\u0001"};
        x.failAfter(0);
        for (String name : absent) {
            Checks.hand(x, name);
            Checks.due("replace(5) of " + name, x.replace(5), ListedNames.NONE);
        }
        Checks.due("isOn(): NONE makes no write", x.isOn(), true);
        Checks.due("writes()", x.writes(), 7);
        Checks.due("all", Scenes.told(x), "2 entries, 53 pages free, listed 1 2; 1 6d6d 101; 2 6d6d6d6d 102");
        x.failAfter(ListedNames.NONE);
        Checks.due("remove()", x.remove(), 2);
        Checks.due("replace(5) of a removed one", x.replace(5), ListedNames.NONE);
    }

    private static void full() {
        Checks.of("FULL");
        Scenes.dueHolds("replace(5) of 8 pages with 9 free", Scenes.crowd(24, 0, "Abcdefg"), 8, 7, x -> x.replace(5));
        Scenes.dueHolds("replace(5) of 8 pages with 8 free", Scenes.crowd(24, 1, "Abcdefg"), 8, 7, x -> x.replace(5));
        Scenes.dueFull("replace(5) of 8 pages with 7 free", Scenes.crowd(24, 2, "Abcdefg"), Scenes.crowd(24, 2),
                x -> x.replace(5));
        Scenes.dueFull("replace(5) of 8 pages with 6 free", Scenes.crowd(24, 3, "Abcdefg"), Scenes.crowd(24, 3),
                x -> x.replace(5));
        Scenes.dueHolds("replace(5) of 7 pages with 7 free", Scenes.crowd(24, 2, "Abcdef"), 7, 6, x -> x.replace(5));
    }

    private static void cut() {
        Checks.of("CUT");
        for (int n = 0; n <= 9; n++) {
            ListedNames x = Scenes.crowd(24, 1, "Abcdefg");
            x.failAfter(n);
            boolean holds = n == 9;
            Checks.due("replace(5) of 9 writes with " + n + " left", x.replace(5), holds ? 7 : ListedNames.CUT);
            Checks.due("isOn()", x.isOn(), holds);
            Checks.due("writes()", x.writes(), n);
            x.start();
            Checks.due("find()", x.find(), holds ? 5 : 107);
            Checks.due("serial()", x.serial(), 7);
        }
    }

    private static void whenPowerIsOff() {
        Checks.of("IllegalStateException when power is off");
        ListedNames x = Scenes.off("A", "B");
        Checks.dueOff("replace(5)", () -> x.replace(5));
        Checks.hand(x, "C");
        Checks.dueOff("replace(5) of a name that is not there", () -> x.replace(5));
        Checks.hand(x, "B");
        x.start();
        Checks.due("find()", x.find(), 102);
        Checks.due("replace(5) when started", x.replace(5), 2);
        ListedNames empty = Scenes.off();
        Checks.dueOff("replace(5) of no entries", () -> empty.replace(5));
    }
}
