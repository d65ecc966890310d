/** Promise 18: isOn. */
public final class IsOnTest {
    private IsOnTest() {
    }

    public static void main(String[] args) {
        onWhileChangesHold();
        offWhenPowerFails();
        otherCallsLeaveIt();
        onWhenStarted();
        Checks.end();
    }

    private static void onWhileChangesHold() {
        Checks.of("Whether power is on: it is until it fails");
        ListedNames x = new ListedNames();
        Checks.due("isOn() of a new object", x.isOn(), true);
        x.failAfter(5);
        Checks.due("isOn() behind failAfter(5)", x.isOn(), true);
        Checks.due("add of 5 writes", x.add(5), 1);
        Checks.due("isOn(): the 5 writes were made", x.isOn(), true);
        x.failAfter(0);
        Checks.due("isOn() behind failAfter(0)", x.isOn(), true);
        Checks.due("add: NONE", x.add(5), ListedNames.NONE);
        Checks.due("isOn() behind NONE", x.isOn(), true);
        ListedNames full = Scenes.crowd(24, 1, "Abcdefg");
        full.failAfter(0);
        Checks.due("remove()", full.remove(), ListedNames.FULL);
        Checks.due("isOn() behind FULL", full.isOn(), true);
    }

    private static void offWhenPowerFails() {
        Checks.of("Whether power is on: it is not when a change was cut");
        for (int n = 0; n <= 4; n++) {
            ListedNames x = new ListedNames();
            x.failAfter(n);
            Checks.due("add of 5 writes with " + n + " left", x.add(5), ListedNames.CUT);
            Checks.due("isOn()", x.isOn(), false);
            Checks.due("isOn() again", x.isOn(), false);
        }
    }

    private static void otherCallsLeaveIt() {
        Checks.of("Whether power is on: other calls leave it off");
        ListedNames x = Scenes.off("A");
        Checks.dueOff("count()", x::count);
        Checks.dueOff("add(5)", () -> x.add(5));
        Checks.dueOff("find()", x::find);
        x.name(66, 1);
        x.writes();
        x.failAfter(9);
        x.failAfter(ListedNames.NONE);
        Checks.dueWrong("failAfter(-2)", () -> x.failAfter(-2));
        Checks.dueWrong("name(0, 1)", () -> x.name(0, 1));
        Checks.due("isOn()", x.isOn(), false);
    }

    private static void onWhenStarted() {
        Checks.of("Whether power is on: it is when it was started");
        ListedNames x = Scenes.off("A");
        x.start();
        Checks.due("isOn()", x.isOn(), true);
        x.start();
        Checks.due("isOn() behind a start() more", x.isOn(), true);
        x.replace(5);
        Checks.due("isOn() behind a change", x.isOn(), true);
    }
}
