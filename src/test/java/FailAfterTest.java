/** Promise 16: failAfter. */
public final class FailAfterTest {
    private FailAfterTest() {
    }

    public static void main(String[] args) {
        afterNWrites();
        atTheFirstWrite();
        fromNowOn();
        overSomeChanges();
        noWritesNoFailure();
        inPlaceOfWhatWasSaid();
        startEndsIt();
        saidWhileOff();
        startWhenOnEndsNothing();
        never();
        mostWrites();
        wrongNumbers();
        wrongNumbersChangeNothing();
        Checks.end();
    }

    private static void dueReplace(ListedNames x, int want) {
        Checks.due("replace() of 3 writes", x.replace(x.find() + 1), want);
    }

    private static void afterNWrites() {
        Checks.of("Power fails after n writes");
        for (int n = 0; n <= 4; n++) {
            ListedNames x = Scenes.with("A");
            x.failAfter(n);
            Checks.due("isOn() behind failAfter(" + n + ")", x.isOn(), true);
            dueReplace(x, n < 3 ? ListedNames.CUT : 1);
            Checks.due("isOn(), " + n + " writes", x.isOn(), n >= 3);
            Checks.due("writes(), " + n + " writes", x.writes(), Math.min(n, 3));
        }
    }

    private static void atTheFirstWrite() {
        Checks.of("Power fails after n writes: after none");
        ListedNames x = Scenes.with("A");
        x.failAfter(0);
        Checks.due("isOn(): no write is to be made", x.isOn(), true);
        Checks.due("find()", x.find(), 101);
        Checks.due("remove()", x.remove(), ListedNames.CUT);
        Checks.due("isOn()", x.isOn(), false);
        Checks.due("writes()", x.writes(), 0);
    }

    private static void fromNowOn() {
        Checks.of("from now on");
        ListedNames x = Scenes.with("A");
        x.failAfter(4);
        dueReplace(x, 1);
        x.failAfter(3);
        dueReplace(x, 1);
        Checks.due("isOn()", x.isOn(), true);
        dueReplace(x, ListedNames.CUT);
        Checks.due("writes()", x.writes(), 0);
    }

    private static void overSomeChanges() {
        Checks.of("(over as many changes as these are)");
        for (int n = 9; n <= 12; n++) {
            ListedNames x = Scenes.with("A");
            x.failAfter(n);
            dueReplace(x, 1);
            dueReplace(x, 1);
            dueReplace(x, 1);
            Checks.due("isOn(): 9 writes were made of " + n, x.isOn(), true);
            dueReplace(x, n < 12 ? ListedNames.CUT : 1);
            Checks.due("writes()", x.writes(), n - 9);
            Checks.due("isOn()", x.isOn(), n == 12);
        }
    }

    private static void noWritesNoFailure() {
        Checks.of("after n writes: calls that make none take none");
        ListedNames x = Scenes.with("A");
        x.failAfter(3);
        Checks.due("add: NONE", x.add(5), ListedNames.NONE);
        Checks.due("rename(1): NONE", x.rename(1), ListedNames.NONE);
        Checks.dueMissing("rename(2)", () -> x.rename(2));
        x.next(0);
        x.found();
        dueReplace(x, 1);
        ListedNames full = Scenes.crowd(24, 2, "Abcdefg");
        full.failAfter(8);
        Checks.due("replace: FULL", full.replace(5), ListedNames.FULL);
        Checks.hand(full, "Abcdef");
        Checks.due("replace of 8 writes", full.replace(5), 6);
        Checks.due("isOn()", full.isOn(), true);
    }

    private static void inPlaceOfWhatWasSaid() {
        Checks.of("in place of what was said before");
        ListedNames more = Scenes.with("A");
        more.failAfter(1);
        more.failAfter(3);
        dueReplace(more, 1);
        dueReplace(more, ListedNames.CUT);
        ListedNames less = Scenes.with("A");
        less.failAfter(100);
        less.failAfter(2);
        dueReplace(less, ListedNames.CUT);
        Checks.due("writes()", less.writes(), 2);
        ListedNames none = Scenes.with("A");
        none.failAfter(3);
        none.failAfter(0);
        dueReplace(none, ListedNames.CUT);
        Checks.due("writes()", none.writes(), 0);
    }

    private static void startEndsIt() {
        Checks.of("start() ends it, too");
        ListedNames x = Scenes.with("A");
        x.failAfter(0);
        dueReplace(x, ListedNames.CUT);
        Checks.due("start()", x.start(), true);
        for (int i = 0; i < 30; i++) {
            dueReplace(x, 1);
        }
    }

    private static void saidWhileOff() {
        Checks.of("start() ends it, too: what was said while power was off");
        int[] numbers = {0, 1, 2, 3, ListedNames.NONE};
        for (int n : numbers) {
            ListedNames x = Scenes.off("A");
            x.failAfter(n);
            Checks.due("isOn()", x.isOn(), false);
            Checks.due("start()", x.start(), true);
            dueReplace(x, 1);
            dueReplace(x, 1);
        }
    }

    private static void startWhenOnEndsNothing() {
        Checks.of("start(): false, changing nothing, when it is on");
        ListedNames x = Scenes.with("A");
        x.failAfter(4);
        Checks.due("start()", x.start(), false);
        dueReplace(x, 1);
        Checks.due("start()", x.start(), false);
        dueReplace(x, ListedNames.CUT);
        Checks.due("writes()", x.writes(), 1);
    }

    private static void never() {
        Checks.of("never with n = NONE");
        ListedNames x = Scenes.with("A");
        x.failAfter(0);
        x.failAfter(ListedNames.NONE);
        dueReplace(x, 1);
        x.failAfter(4);
        dueReplace(x, 1);
        x.failAfter(-1);
        for (int i = 0; i < 200; i++) {
            dueReplace(x, 1);
        }
        Checks.due("isOn()", x.isOn(), true);
    }

    private static void mostWrites() {
        Checks.of("Power fails after n writes: after more than are ever made");
        int[] numbers = {Integer.MAX_VALUE, Integer.MAX_VALUE - 1, 1000000};
        for (int n : numbers) {
            ListedNames x = Scenes.with("A");
            x.failAfter(n);
            for (int i = 0; i < 100; i++) {
                dueReplace(x, 1);
            }
            Checks.due("isOn()", x.isOn(), true);
        }
    }

    private static void wrongNumbers() {
        Checks.of("IllegalArgumentException when n is less than that");
        int[] numbers = {-2, -3, -4, -1000, Integer.MIN_VALUE, Integer.MIN_VALUE + 1};
        ListedNames on = Scenes.with("A");
        ListedNames off = Scenes.off("A");
        for (int n : numbers) {
            Checks.dueWrong("failAfter(" + n + ")", () -> on.failAfter(n));
            Checks.dueWrong("failAfter(" + n + ") when power is off", () -> off.failAfter(n));
        }
        on.failAfter(-1);
        on.failAfter(0);
        off.failAfter(-1);
        off.failAfter(0);
        Checks.due("isOn()", on.isOn(), true);
        Checks.due("isOn()", off.isOn(), false);
    }

    private static void wrongNumbersChangeNothing() {
        Checks.of("IllegalArgumentException: what was said before holds");
        ListedNames x = Scenes.with("A");
        x.failAfter(2);
        Checks.dueWrong("failAfter(-2)", () -> x.failAfter(-2));
        dueReplace(x, ListedNames.CUT);
        Checks.due("writes()", x.writes(), 2);
        ListedNames y = Scenes.with("A");
        Checks.dueWrong("failAfter(-2)", () -> y.failAfter(-2));
        dueReplace(y, 1);
        dueReplace(y, 1);
    }
}
