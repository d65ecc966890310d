/** Promise 1: a new object. */
public final class NewObjectTest {
    private NewObjectTest() {
    }

    public static void main(String[] args) {
        noEntries();
        nothingToChange();
        powerIsOn();
        eachObjectForItself();
        Checks.end();
    }

    private static void noEntries() {
        Checks.of("No entries");
        ListedNames x = new ListedNames();
        Checks.due("count()", x.count(), 0);
        Checks.due("free()", x.free(), 58);
        Checks.due("writes()", x.writes(), 0);
        Checks.due("found()", x.found(), 0);
        Checks.due("rank()", x.rank(), 0);
        Checks.due("serial()", x.serial(), ListedNames.NONE);
        Checks.due("next(MIN)", x.next(Integer.MIN_VALUE), ListedNames.NONE);
        Checks.due("listed(0, 0)", x.listed(0, 0), ListedNames.NONE);
        Checks.due("listed(0, 1)", x.listed(0, 1), ListedNames.NONE);
        Checks.dueMissing("find()", x::find);
    }

    private static void nothingToChange() {
        Checks.of("No entries: nothing to remove, to replace or to rename");
        ListedNames x = new ListedNames();
        Checks.due("remove()", x.remove(), ListedNames.NONE);
        Checks.due("replace(5)", x.replace(5), ListedNames.NONE);
        Checks.dueMissing("rename(0)", () -> x.rename(0));
        Checks.dueMissing("rename(1)", () -> x.rename(1));
        Checks.dueMissing("rename(-1)", () -> x.rename(-1));
        Checks.due("count()", x.count(), 0);
        Checks.due("writes()", x.writes(), 0);
    }

    private static void powerIsOn() {
        Checks.of("power is on");
        ListedNames x = new ListedNames();
        Checks.due("isOn()", x.isOn(), true);
        Checks.due("start()", x.start(), false);
        Checks.due("add(5)", x.add(5), 1);
    }

    private static void eachObjectForItself() {
        Checks.of("A new object");
        ListedNames one = Scenes.off("A", "B");
        ListedNames other = new ListedNames();
        Checks.due("isOn()", other.isOn(), true);
        Checks.due("count()", other.count(), 0);
        Checks.due("writes()", other.writes(), 0);
        Checks.due("add(5)", other.add(5), 1);
        Checks.due("next(0)", other.next(0), 1);
        Checks.due("found()", other.found(), 65);
        Checks.due("start() of the first one", one.start(), true);
        Checks.due("count() of the first one", one.count(), 2);
    }
}
