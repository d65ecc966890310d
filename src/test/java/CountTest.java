/** Promise 13: count. */
public final class CountTest {
    private CountTest() {
    }

    public static void main(String[] args) {
        fromNoneTo24AndBack();
        changesThatAddNone();
        changesThatDoNotHold();
        whenPowerIsOff();
        Checks.end();
    }

    private static void fromNoneTo24AndBack() {
        Checks.of("How many entries there are");
        ListedNames x = new ListedNames();
        Checks.due("count()", x.count(), 0);
        for (int i = 1; i <= 24; i++) {
            x.name(100 + i, 1);
            x.add(5);
            Checks.due("count() behind add", x.count(), i);
        }
        x.name(125, 1);
        x.add(5);
        Checks.due("count() behind the 25th add", x.count(), 24);
        for (int i = 1; i <= 24; i++) {
            x.name(100 + i, 1);
            x.remove();
            Checks.due("count() behind remove", x.count(), 24 - i);
        }
        x.remove();
        Checks.due("count() behind remove of none", x.count(), 0);
    }

    private static void changesThatAddNone() {
        Checks.of("How many entries there are, not how many names or serials were given");
        ListedNames x = Scenes.with("A", "B");
        x.replace(5);
        Checks.due("count() behind replace", x.count(), 2);
        Checks.hand(x, "C");
        x.rename(2);
        Checks.due("count() behind rename", x.count(), 2);
        x.remove();
        x.add(5);
        Checks.due("count() behind remove and add", x.count(), 2);
        x.add(5);
        Checks.due("count() behind NONE", x.count(), 2);
    }

    private static void changesThatDoNotHold() {
        Checks.of("How many entries there are: by changes that hold");
        ListedNames x = Scenes.with("A", "B");
        x.failAfter(2);
        Checks.due("remove()", x.remove(), ListedNames.CUT);
        x.start();
        Checks.due("count() behind a remove that was cut", x.count(), 2);
        Checks.hand(x, "C");
        x.failAfter(5);
        Checks.due("add()", x.add(5), ListedNames.CUT);
        x.start();
        Checks.due("count() behind an add that was cut", x.count(), 2);
        ListedNames full = Scenes.crowd(24, 1, "Abcdefg");
        Checks.due("remove()", full.remove(), ListedNames.FULL);
        Checks.due("count() behind a remove that was refused", full.count(), 24);
    }

    private static void whenPowerIsOff() {
        Checks.of("IllegalStateException when power is off");
        ListedNames x = Scenes.off("A", "B");
        Checks.dueOff("count()", x::count);
        x.start();
        Checks.due("count() when started", x.count(), 2);
        Checks.dueOff("count() of no entries", Scenes.off()::count);
    }
}
