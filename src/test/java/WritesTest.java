/** Promise 15: writes. */
public final class WritesTest {
    private WritesTest() {
    }

    public static void main(String[] args) {
        zeroWhenThereWasNone();
        ofTheLatestChange();
        refusedChangesDoNotCount();
        changesAnsweredNoneDoNotCount();
        callsThatThrowDoNotCount();
        thoseThatWereMadeWhenPowerFailed();
        powerOnOrOff();
        Checks.end();
    }

    private static void zeroWhenThereWasNone() {
        Checks.of("0 when there was none");
        ListedNames x = new ListedNames();
        Checks.due("writes() of a new object", x.writes(), 0);
        x.remove();
        x.replace(5);
        Checks.dueMissing("rename(1)", () -> x.rename(1));
        x.next(0);
        x.listed(0, 0);
        x.start();
        x.failAfter(7);
        Checks.due("writes(): no change was made", x.writes(), 0);
    }

    private static void ofTheLatestChange() {
        Checks.of("How many writes (the last one counted) the latest change made");
        ListedNames x = new ListedNames();
        x.add(5);
        Checks.due("writes() of the first add", x.writes(), 5);
        Checks.enter(x, "AB", 5);
        Checks.due("writes() of an add", x.writes(), 7);
        x.replace(6);
        Checks.due("writes() of a replace", x.writes(), 4);
        Checks.hand(x, "B");
        x.rename(2);
        Checks.due("writes() of a rename", x.writes(), 7);
        x.remove();
        Checks.due("writes() of a remove", x.writes(), 3);
        x.name(67, 1);
        x.count();
        x.free();
        x.next(0);
        x.found();
        x.failAfter(9);
        x.start();
        Checks.due("writes(): other calls leave it", x.writes(), 3);
        Checks.due("writes() again", x.writes(), 3);
    }

    private static void refusedChangesDoNotCount() {
        Checks.of("the latest change that was not refused");
        ListedNames x = Scenes.crowd(24, 2, "Abcdefg");
        Checks.due("writes()", x.writes(), 6);
        Checks.due("remove()", x.remove(), ListedNames.FULL);
        Checks.due("writes() behind a remove that was refused", x.writes(), 6);
        Checks.due("replace()", x.replace(5), ListedNames.FULL);
        Checks.due("writes() behind a replace that was refused", x.writes(), 6);
        Checks.hand(x, "Abcdz");
        Checks.due("rename(24)", x.rename(24), ListedNames.FULL);
        Checks.due("writes() behind a rename that was refused", x.writes(), 6);
        Checks.due("add()", x.add(5), ListedNames.FULL);
        Checks.due("writes() behind an add to 24", x.writes(), 6);
        ListedNames y = Scenes.crowd(23, 1, "Abcdefz");
        Checks.due("add()", y.add(5), ListedNames.FULL);
        Checks.due("writes() behind an add that was refused", y.writes(), 6);
    }

    private static void changesAnsweredNoneDoNotCount() {
        Checks.of("(nor answered NONE)");
        ListedNames x = Scenes.with("A", "B");
        Checks.due("writes()", x.writes(), 6);
        Checks.due("add()", x.add(5), ListedNames.NONE);
        Checks.due("writes() behind add: NONE", x.writes(), 6);
        Checks.due("rename(1)", x.rename(1), ListedNames.NONE);
        Checks.due("writes() behind rename: NONE", x.writes(), 6);
        Checks.hand(x, "C");
        Checks.due("remove()", x.remove(), ListedNames.NONE);
        Checks.due("writes() behind remove: NONE", x.writes(), 6);
        Checks.due("replace()", x.replace(5), ListedNames.NONE);
        Checks.due("writes() behind replace: NONE", x.writes(), 6);
    }

    private static void callsThatThrowDoNotCount() {
        Checks.of("How many writes the latest change made: a call that throws is none");
        ListedNames x = Scenes.with("A", "B");
        Checks.dueMissing("rename(3)", () -> x.rename(3));
        Checks.due("writes()", x.writes(), 6);
        x.failAfter(2);
        Checks.due("replace()", x.replace(5), ListedNames.CUT);
        Checks.dueOff("add(5)", () -> x.add(5));
        Checks.dueOff("remove()", x::remove);
        Checks.dueOff("replace(5)", () -> x.replace(5));
        Checks.dueOff("rename(1)", () -> x.rename(1));
        Checks.due("writes()", x.writes(), 2);
    }

    private static void thoseThatWereMadeWhenPowerFailed() {
        Checks.of("when power failed, those that were made");
        for (int n = 0; n <= 7; n++) {
            ListedNames x = Scenes.with("A");
            x.failAfter(n);
            Checks.hand(x, "AB");
            Checks.due("add of 7 writes with " + n + " left", x.add(5), n == 7 ? 2 : ListedNames.CUT);
            Checks.due("writes()", x.writes(), n);
        }
        ListedNames y = Scenes.with("A");
        y.failAfter(4);
        Checks.due("replace of 3 writes", y.replace(5), 1);
        Checks.due("writes()", y.writes(), 3);
        Checks.due("replace of 3 writes with 1 left", y.replace(6), ListedNames.CUT);
        Checks.due("writes(): of this change alone", y.writes(), 1);
    }

    private static void powerOnOrOff() {
        Checks.of("writes() is answered when power is off, too");
        ListedNames x = Scenes.with("A");
        x.failAfter(2);
        x.replace(5);
        Checks.due("isOn()", x.isOn(), false);
        Checks.due("writes() when power is off", x.writes(), 2);
        x.start();
        Checks.due("writes() when started", x.writes(), 2);
    }
}
