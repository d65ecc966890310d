/** Promise 8: serial. */
public final class SerialTest {
    private SerialTest() {
    }

    public static void main(String[] args) {
        serialOfTheEntry();
        noneWhenThereIsNone();
        itChangesNothing();
        whenPowerIsOff();
        Checks.end();
    }

    private static void serialOfTheEntry() {
        Checks.of("The serial of the entry with the name at hand");
        ListedNames x = Scenes.with("c", "a", "b", "abcdefg");
        Checks.due("serial() of abcdefg", x.serial(), 4);
        Checks.hand(x, "c");
        Checks.due("serial() of c", x.serial(), 1);
        Checks.hand(x, "a");
        Checks.due("serial() of a", x.serial(), 2);
        Checks.hand(x, "d");
        x.rename(1);
        Checks.due("serial() of d, by rename", x.serial(), 1);
        x.remove();
        x.add(5);
        Checks.due("serial() of d, added anew", x.serial(), 5);
    }

    private static void noneWhenThereIsNone() {
        Checks.of("NONE when there is none");
        Checks.due("serial() of no entries", new ListedNames().serial(), ListedNames.NONE);
        ListedNames x = Scenes.with("mm", "mmmm", "x");
        String[] absent = {"m", "mmm", "ml", "mn", "lm", "nm", "mmmmm", "mm\u0001", "X"};
        for (String name : absent) {
            Checks.hand(x, name);
            Checks.due("serial() of " + name, x.serial(), ListedNames.NONE);
        }
        Checks.hand(x, "x");
        x.remove();
        Checks.due("serial() of a removed one", x.serial(), ListedNames.NONE);
        x.rename(1);
        Checks.hand(x, "mm");
        Checks.due("serial() of a name given up", x.serial(), ListedNames.NONE);
    }

    private static void itChangesNothing() {
        Checks.of("serial: a question, no change");
        ListedNames x = Scenes.with("A", "B");
        Checks.due("serial()", x.serial(), 2);
        Checks.due("found(): it finds none", x.found(), 0);
        x.next(0);
        x.failAfter(0);
        Checks.due("serial()", x.serial(), 2);
        Checks.due("found(): it leaves the one found", x.found(), 65);
        Checks.due("isOn(): it makes no write", x.isOn(), true);
        Checks.hand(x, "C");
        Checks.due("serial()", x.serial(), ListedNames.NONE);
        Checks.due("found(): it leaves the one found", x.found(), 65);
    }

    private static void whenPowerIsOff() {
        Checks.of("IllegalStateException when power is off");
        ListedNames x = Scenes.off("A", "B");
        Checks.dueOff("serial()", x::serial);
        Checks.hand(x, "C");
        Checks.dueOff("serial() of a name that is not there", x::serial);
        x.start();
        Checks.due("serial() when started", x.serial(), ListedNames.NONE);
    }
}
