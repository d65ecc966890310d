import java.util.function.ToIntFunction;

/** Terms: power, when it fails, what is lost then, and the constants. */
public final class TermsPowerTest {
    private static final String[] NAMES = {"A", "AB", "AC", "xy"};

    private TermsPowerTest() {
    }

    public static void main(String[] args) {
        onAtFirst();
        neverSaid();
        failsAtEachWriteOfEachChange();
        staysOnUntilOneMoreIsToBeMade();
        fromThenOn();
        nothingElseIsLost();
        offUntilStarted();
        constants();
        Checks.end();
    }

    private static void onAtFirst() {
        Checks.of("POWER is on at first");
        ListedNames x = new ListedNames();
        Checks.due("isOn()", x.isOn(), true);
        Checks.due("count()", x.count(), 0);
        Checks.due("add(5)", x.add(5), 1);
        Checks.due("isOn()", x.isOn(), true);
    }

    private static void neverSaid() {
        Checks.of("It may be said to fail");
        ListedNames x = new ListedNames();
        x.add(5);
        for (int i = 0; i < 500; i++) {
            Checks.due("replace() when nothing was said", x.replace(i), 1);
        }
        Checks.due("isOn()", x.isOn(), true);
    }

    private static ListedNames scene(String hand) {
        ListedNames x = Scenes.with(NAMES);
        Checks.hand(x, hand);
        return x;
    }

    private static void failsAtEachWriteOfEachChange() {
        Checks.of("it fails as soon as these were made and one more is to be made");
        failsAtEachWrite("add(5)", "AD", 7, 5, x -> x.add(5));
        failsAtEachWrite("remove()", "AC", 5, 3, x -> x.remove());
        failsAtEachWrite("replace(5)", "AC", 4, 3, x -> x.replace(5));
        failsAtEachWrite("rename(2)", "xz", 8, 2, x -> x.rename(2));
    }

    private static void failsAtEachWrite(String call, String hand, int writes, int answer,
            ToIntFunction<ListedNames> change) {
        ListedNames behind = scene(hand);
        Checks.due(call, change.applyAsInt(behind), answer);
        Checks.due("writes() of " + call, behind.writes(), writes);
        String before = Scenes.told(scene(hand));
        String after = Scenes.told(behind);
        for (int n = 0; n <= writes + 1; n++) {
            ListedNames x = scene(hand);
            x.failAfter(n);
            boolean holds = n >= writes;
            String when = call + " of " + writes + " writes when " + n + " are left";
            Checks.due(when, change.applyAsInt(x), holds ? answer : ListedNames.CUT);
            Checks.due("isOn(), " + when, x.isOn(), holds);
            Checks.due("writes(), " + when, x.writes(), holds ? writes : n);
            Checks.due("start(), " + when, x.start(), !holds);
            Checks.due("all, " + when, Scenes.told(x), holds ? after : before);
        }
    }

    private static void staysOnUntilOneMoreIsToBeMade() {
        Checks.of("and one more is to be made");
        ListedNames x = new ListedNames();
        x.failAfter(5);
        Checks.due("add of 5 writes", x.add(5), 1);
        Checks.due("isOn(): all were made", x.isOn(), true);
        Checks.due("add: NONE makes no write", x.add(5), ListedNames.NONE);
        Checks.dueMissing("rename(2)", () -> x.rename(2));
        Checks.due("find()", x.find(), 5);
        Checks.due("next(0)", x.next(0), 1);
        Checks.due("isOn(): none was to be made", x.isOn(), true);
        Checks.due("replace: one more is to be made", x.replace(6), ListedNames.CUT);
        Checks.due("isOn()", x.isOn(), false);
    }

    private static void fromThenOn() {
        Checks.of("after n writes from then on");
        ListedNames x = new ListedNames();
        Checks.due("add of 5 writes", x.add(5), 1);
        x.failAfter(3);
        Checks.due("replace of 3 writes: those made before don't count", x.replace(6), 1);
        Checks.due("replace", x.replace(7), ListedNames.CUT);
        x.start();
        Checks.due("find()", x.find(), 6);
    }

    private static void nothingElseIsLost() {
        Checks.of("the change that this belongs to does not hold, nothing else is lost");
        ListedNames x = Scenes.with(NAMES);
        x.failAfter(3 + 3 + 2);
        Checks.due("replace of 3 writes", x.replace(5), 4);
        Checks.due("replace of 3 writes", x.replace(6), 4);
        Checks.due("replace of 3 writes with 2 left", x.replace(7), ListedNames.CUT);
        x.start();
        Checks.due("serial(): the name at hand is the same", x.serial(), 4);
        Checks.due("find(): the change before it holds", x.find(), 6);
        Checks.due("listed(0, 2): with its length", x.listed(0, 2), 4);
        Checks.due("add: the latest serial is the same", Checks.enter(x, "B", 5), 5);
    }

    private static void offUntilStarted() {
        Checks.of("and power is off until it is started again");
        ListedNames x = Scenes.off("A");
        for (int i = 0; i < 3; i++) {
            Checks.due("isOn()", x.isOn(), false);
            Checks.dueOff("count()", x::count);
            Checks.dueOff("replace(5)", () -> x.replace(5));
        }
        x.failAfter(ListedNames.NONE);
        Checks.due("isOn(): failAfter starts nothing", x.isOn(), false);
        x.name(66, 1);
        Checks.due("isOn(): name starts nothing", x.isOn(), false);
        Checks.due("start()", x.start(), true);
        Checks.due("isOn()", x.isOn(), true);
        Checks.due("count()", x.count(), 1);
    }

    private static void constants() {
        Checks.of("The constants");
        Checks.due("NONE", ListedNames.NONE, -1);
        Checks.due("FULL", ListedNames.FULL, -2);
        Checks.due("CUT", ListedNames.CUT, -3);
    }
}
