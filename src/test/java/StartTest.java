/** Promise 17: start. */
public final class StartTest {
    private StartTest() {
    }

    public static void main(String[] args) {
        onAgain();
        doesNotFailAnyMore();
        untilThatIsSaidAnew();
        falseWhenItIsOn();
        changingNothingWhenItIsOn();
        noEntryIsFound();
        entriesStay();
        Checks.end();
    }

    private static void onAgain() {
        Checks.of("Power is on again: true");
        ListedNames x = Scenes.off("A");
        Checks.due("isOn()", x.isOn(), false);
        Checks.due("start()", x.start(), true);
        Checks.due("isOn()", x.isOn(), true);
        Checks.due("start() again", x.start(), false);
        Checks.due("find()", x.find(), 101);
        Checks.due("replace()", x.replace(5), 1);
    }

    private static void doesNotFailAnyMore() {
        Checks.of("and doesn't fail any more");
        for (int n = 0; n <= 2; n++) {
            ListedNames x = Scenes.with("A");
            x.failAfter(n);
            Checks.due("replace() of 3 writes with " + n + " left", x.replace(5), ListedNames.CUT);
            x.start();
            for (int i = 0; i < 100; i++) {
                Checks.due("replace()", x.replace(i), 1);
            }
        }
    }

    private static void untilThatIsSaidAnew() {
        Checks.of("until that is said anew");
        ListedNames x = Scenes.off("A");
        x.start();
        Checks.due("replace()", x.replace(5), 1);
        x.failAfter(2);
        Checks.due("replace()", x.replace(6), ListedNames.CUT);
        Checks.due("isOn()", x.isOn(), false);
        Checks.due("start()", x.start(), true);
        Checks.due("find()", x.find(), 5);
    }

    private static void falseWhenItIsOn() {
        Checks.of("false when it is on");
        ListedNames x = new ListedNames();
        Checks.due("start() of a new object", x.start(), false);
        x.failAfter(5);
        Checks.due("start(): power is about to fail", x.start(), false);
        Checks.due("add of 5 writes", x.add(5), 1);
        Checks.due("start(): all writes were made", x.start(), false);
        Checks.due("isOn()", x.isOn(), true);
    }

    private static void changingNothingWhenItIsOn() {
        Checks.of("changing nothing, when it is on");
        ListedNames x = Scenes.with("A", "B");
        x.next(0);
        x.failAfter(2);
        Checks.due("start()", x.start(), false);
        Checks.due("found(): the entry found stays", x.found(), 65);
        Checks.due("writes()", x.writes(), 6);
        Checks.due("serial(): the name at hand stays", x.serial(), 2);
        Checks.due("replace(): what was said stays", x.replace(5), ListedNames.CUT);
    }

    private static void noEntryIsFound() {
        Checks.of("No entry is found then");
        ListedNames x = Scenes.with("A", "B");
        Checks.due("next(0)", x.next(0), 1);
        x.failAfter(0);
        Checks.due("replace()", x.replace(5), ListedNames.CUT);
        x.start();
        Checks.due("found()", x.found(), 0);
        Checks.due("listed(1, 0)", x.listed(1, 0), 2);
        Checks.due("found()", x.found(), 66);
        x.failAfter(1);
        Checks.due("remove()", x.remove(), ListedNames.CUT);
        x.start();
        Checks.due("found()", x.found(), 0);
        x.start();
        Checks.due("next(1)", x.next(1), 2);
        Checks.due("found()", x.found(), 66);
    }

    private static void entriesStay() {
        Checks.of("nothing else is lost");
        String[] names = Scenes.crowdNames(24, 0);
        ListedNames x = Scenes.off(names);
        x.start();
        Checks.due("serial(): the name at hand stays", x.serial(), 24);
        Checks.due("writes()", x.writes(), 0);
        Checks.due("all", Scenes.told(x), Scenes.told(Scenes.with(names)));
    }
}
