/** Promise 7: find. */
public final class FindTest {
    private FindTest() {
    }

    public static void main(String[] args) {
        targetOfTheEntry();
        itChangesNothing();
        whenPowerIsOff();
        whenThereIsNone();
        Checks.end();
    }

    private static void targetOfTheEntry() {
        Checks.of("The target of the entry with the name at hand");
        ListedNames x = new ListedNames();
        int[] targets = {0, -1, -2, -3, 1, Integer.MIN_VALUE, Integer.MAX_VALUE};
        for (int i = 0; i < targets.length; i++) {
            Checks.enter(x, "abcdefg".substring(0, i + 1), targets[i]);
        }
        for (int i = 0; i < targets.length; i++) {
            Checks.hand(x, "abcdefg".substring(0, i + 1));
            Checks.due("find() of " + (i + 1) + " bytes", x.find(), targets[i]);
        }
        Checks.due("replace(9)", x.replace(9), 7);
        Checks.due("find()", x.find(), 9);
        Checks.hand(x, "z");
        Checks.due("rename(7)", x.rename(7), 7);
        Checks.due("find()", x.find(), 9);
    }

    private static void itChangesNothing() {
        Checks.of("find: a question, no change");
        ListedNames x = Scenes.with("A", "B");
        x.next(0);
        x.failAfter(0);
        Checks.due("find()", x.find(), 102);
        Checks.due("isOn(): it makes no write", x.isOn(), true);
        Checks.due("writes()", x.writes(), 6);
        Checks.due("found(): it finds none", x.found(), 65);
    }

    private static void whenPowerIsOff() {
        Checks.of("IllegalStateException when power is off");
        ListedNames x = Scenes.off("A", "B");
        Checks.dueOff("find()", x::find);
        Checks.hand(x, "C");
        Checks.dueOff("find() of a name that is not there", x::find);
        Checks.hand(x, "A");
        x.start();
        Checks.due("find() when started", x.find(), 101);
    }

    private static void whenThereIsNone() {
        Checks.of("NoSuchElementException when there is none");
        Checks.dueMissing("find() of no entries", () -> new ListedNames().find());
        ListedNames x = Scenes.with("mm", "mmmm", "x");
        String[] absent = {"m", "mmm", "ml", "mn", "lm", "nm", "mmmmm", "mm\u0001", "X"};
        for (String name : absent) {
            Checks.hand(x, name);
            Checks.dueMissing("find() of " + name, x::find);
        }
        Checks.hand(x, "x");
        x.failAfter(0);
        Checks.due("remove() when power fails", x.remove(), ListedNames.CUT);
        x.start();
        Checks.due("find(): it is still there", x.find(), 103);
        Checks.due("remove()", x.remove(), 3);
        Checks.dueMissing("find() of a removed one", x::find);
        x.failAfter(4);
        Checks.due("add when power fails", x.add(5), ListedNames.CUT);
        x.start();
        Checks.dueMissing("find() of what was cut", x::find);
        Checks.due("rename(1)", x.rename(1), 1);
        Checks.hand(x, "mm");
        Checks.dueMissing("find() of a name given up", x::find);
    }
}
