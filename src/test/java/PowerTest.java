/** Promises 16 (failAfter), 17 (start) and 18 (isOn), and what calls answer while power is off. */
public final class PowerTest {
    private PowerTest() {
    }

    public static void main(String[] args) {
        failsAtEachWrite();
        failsOverSomeChanges();
        saidAnew();
        wrongNumbers();
        start();
        whileOff();
        Checks.end();
    }

    private static void failsAtEachWrite() {
        for (int n = 0; n <= 7; n++) {
            ListedNames x = new ListedNames();
            x.add(1);
            x.failAfter(n);
            boolean holds = n >= 7;
            Checks.due("add of 7 writes, " + n + " left", Checks.enter(x, "AB", 2), holds ? 2 : ListedNames.CUT);
            Checks.due("isOn()", x.isOn(), holds);
            Checks.due("writes()", x.writes(), n);
            Checks.due("start()", x.start(), !holds);
            Checks.due("count()", x.count(), holds ? 2 : 1);
            Checks.due("free()", x.free(), holds ? 53 : 56);
            Checks.due("serial()", x.serial(), holds ? 2 : ListedNames.NONE);
        }
    }

    private static void failsOverSomeChanges() {
        ListedNames x = new ListedNames();
        x.failAfter(11);
        Checks.due("add of 5 writes", x.add(1), 1);
        Checks.due("add: NONE makes none", x.add(1), ListedNames.NONE);
        Checks.due("replace of 3 writes", x.replace(2), 1);
        Checks.due("replace of 3 writes", x.replace(3), 1);
        Checks.due("isOn(): all were made, none is to be made", x.isOn(), true);
        Checks.due("find()", x.find(), 3);
        Checks.due("replace: one more is to be made", x.replace(4), ListedNames.CUT);
        Checks.due("isOn()", x.isOn(), false);
        Checks.due("writes()", x.writes(), 0);
    }

    private static void saidAnew() {
        ListedNames x = new ListedNames();
        x.failAfter(1);
        x.failAfter(5);
        Checks.due("add of 5 writes with 5 said last", x.add(1), 1);
        x.failAfter(ListedNames.NONE);
        Checks.due("replace with never said", x.replace(2), 1);
        x.failAfter(2);
        Checks.due("start() when it is on ends nothing", x.start(), false);
        Checks.due("replace of 3 writes, 2 left", x.replace(3), ListedNames.CUT);
        x.failAfter(0);
        Checks.due("start() ends what was said while off", x.start(), true);
        Checks.due("replace(4)", x.replace(4), 1);
        x.failAfter(Integer.MAX_VALUE);
        Checks.due("replace(5)", x.replace(5), 1);
    }

    private static void wrongNumbers() {
        ListedNames x = new ListedNames();
        x.failAfter(4);
        Checks.dueThrow("failAfter(-2)", IllegalArgumentException.class, () -> x.failAfter(-2));
        Checks.dueThrow("failAfter(MIN)", IllegalArgumentException.class, () -> x.failAfter(Integer.MIN_VALUE));
        Checks.due("add of 5 writes: 4 still holds", x.add(1), ListedNames.CUT);
        Checks.dueThrow("failAfter(-2) when off", IllegalArgumentException.class, () -> x.failAfter(-2));
    }

    private static void start() {
        ListedNames x = new ListedNames();
        x.add(1);
        x.next(0);
        Checks.due("start() when on", x.start(), false);
        Checks.due("found(): start() changed nothing", x.found(), 65);
        x.failAfter(0);
        Checks.due("remove()", x.remove(), ListedNames.CUT);
        Checks.due("isOn()", x.isOn(), false);
        Checks.due("start()", x.start(), true);
        Checks.due("isOn()", x.isOn(), true);
        Checks.due("start() again", x.start(), false);
        Checks.due("found(): none behind start()", x.found(), 0);
        Checks.due("find(): the entry is there", x.find(), 1);
        for (int i = 0; i < 40; i++) {
            Checks.due("replace(): power doesn't fail any more", x.replace(i), 1);
        }
    }

    private static void whileOff() {
        ListedNames x = new ListedNames();
        x.add(1);
        x.failAfter(0);
        x.replace(2);
        Checks.due("isOn()", x.isOn(), false);
        dueOff(x);
        Checks.hand(x, "B");
        dueOff(x);
        Checks.due("writes()", x.writes(), 0);
        Checks.due("isOn()", x.isOn(), false);
        x.start();
        Checks.due("count()", x.count(), 1);
        Checks.due("next(0)", x.next(0), 1);
        Checks.due("found()", x.found(), 65);
    }

    private static void dueOff(ListedNames x) {
        dueOff("add(1)", () -> x.add(1));
        dueOff("remove()", x::remove);
        dueOff("replace(3)", () -> x.replace(3));
        dueOff("rename(1)", () -> x.rename(1));
        dueOff("rename(9)", () -> x.rename(9));
        dueOff("find()", x::find);
        dueOff("serial()", x::serial);
        dueOff("next(0)", () -> x.next(0));
        dueOff("listed(0, 0)", () -> x.listed(0, 0));
        dueOff("listed(0, 2)", () -> x.listed(0, 2));
        dueOff("listed(0, -1)", () -> x.listed(0, -1));
        dueOff("rank()", x::rank);
        dueOff("found()", x::found);
        dueOff("count()", x::count);
        dueOff("free()", x::free);
    }

    private static void dueOff(String call, Runnable run) {
        Checks.dueThrow(call + " when off", IllegalStateException.class, run);
    }
}
