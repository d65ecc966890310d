/** Promise 3: add. */
public final class AddTest {
    private AddTest() {
    }

    public static void main(String[] args) {
        entryMore();
        itsSerial();
        noneWhenAnEntryHasThatName();
        noneBeforeAllElse();
        fullWhenThereAre24();
        fullWhenItIsRefused();
        fullBeforeCut();
        cut();
        whenPowerIsOff();
        Checks.end();
    }

    private static void entryMore() {
        Checks.of("An entry more, with the name at hand");
        ListedNames x = Scenes.with("M", "z");
        Checks.due("add(-7)", Checks.enter(x, "abcdefg", -7), 3);
        Checks.due("count()", x.count(), 3);
        Checks.due("find()", x.find(), -7);
        Checks.due("serial()", x.serial(), 3);
        Checks.due("next(2)", x.next(2), 3);
        Checks.due("found()", x.found(), Checks.word("abcdefg"));
        Checks.due("listed(1, 0): between the others", x.listed(1, 0), 3);
        Checks.hand(x, "M");
        Checks.due("find(): the others stay", x.find(), 101);
        Checks.due("serial(): the others stay", x.serial(), 1);
    }

    private static void itsSerial() {
        Checks.of("its serial");
        ListedNames x = new ListedNames();
        for (int i = 1; i <= 24; i++) {
            x.name(1 + i, 1);
            Checks.due("add()", x.add(ListedNames.NONE), i);
            Checks.due("serial()", x.serial(), i);
        }
    }

    private static void noneWhenAnEntryHasThatName() {
        Checks.of("NONE when an entry has that name");
        ListedNames x = Scenes.with("mm");
        Checks.due("add(5) of mm", x.add(5), ListedNames.NONE);
        Checks.due("find(): the target stays", x.find(), 101);
        Checks.due("count()", x.count(), 1);
        Checks.due("free()", x.free(), 56);
        Checks.due("writes()", x.writes(), 5);
        String[] near = {"m", "mmm", "ml", "mn", "lm", "nm", "mm\u0001"};
        for (int i = 0; i < near.length; i++) {
            Checks.due("add(5) of " + near[i], Checks.enter(x, near[i], 5), 2 + i);
        }
        Checks.hand(x, "mm");
        x.remove();
        Checks.due("add(5) of mm when it is removed", x.add(5), 2 + near.length);
        Checks.hand(x, "mx");
        x.rename(2);
        Checks.due("add(5) of a name by rename", x.add(5), ListedNames.NONE);
        Checks.due("add(5) of a name given up", Checks.enter(x, "m", 5), 3 + near.length);
    }

    private static void noneBeforeAllElse() {
        Checks.of("(before all else)");
        ListedNames most = Scenes.crowd(24, 0);
        Checks.hand(most, "A");
        Checks.due("add(5) with 24", most.add(5), ListedNames.NONE);
        most.failAfter(0);
        Checks.due("add(5) with 24, power about to fail", most.add(5), ListedNames.NONE);
        Checks.due("isOn()", most.isOn(), true);
        ListedNames full = Scenes.crowd(23, 1);
        Checks.hand(full, "Abcdefg");
        Checks.due("add(5) with 10 free", full.add(5), ListedNames.NONE);
        ListedNames x = Scenes.with("A");
        x.failAfter(0);
        Checks.due("add(5), power about to fail", x.add(5), ListedNames.NONE);
        Checks.due("isOn()", x.isOn(), true);
        Checks.due("writes()", x.writes(), 5);
    }

    private static void fullWhenThereAre24() {
        Checks.of("FULL when there are 24");
        ListedNames x = Scenes.crowd(22, 0);
        Checks.due("add of the 23rd", Checks.enter(x, "X", 5), 23);
        Checks.due("add of the 24th", Checks.enter(x, "Y", 5), 24);
        Checks.due("add of the 25th, 5 pages with 9 free", Checks.enter(x, "Z", 5), ListedNames.FULL);
        Checks.due("serial()", x.serial(), ListedNames.NONE);
        Checks.due("count()", x.count(), 24);
        Checks.due("free()", x.free(), 9);
        Checks.hand(x, "X");
        Checks.due("remove()", x.remove(), 23);
        Checks.due("add with 23 again", Checks.enter(x, "Z", 5), 25);
        Checks.due("add with 24 again", Checks.enter(x, "X", 5), ListedNames.FULL);
        Scenes.dueFull("add of Z to 24", Scenes.crowd(24, 0, "Z"), Scenes.crowd(24, 0), names -> names.add(5));
    }

    private static void fullWhenItIsRefused() {
        Checks.of("FULL when it is refused");
        Scenes.dueHolds("add of 10 pages with 11 free", Scenes.crowd(23, 0, "Abcdez"), 10, 24, x -> x.add(5));
        Scenes.dueHolds("add of 11 pages with 11 free", Scenes.crowd(23, 0, "Abcdefz"), 11, 24, x -> x.add(5));
        Scenes.dueFull("add of 11 pages with 10 free", Scenes.crowd(23, 1, "Abcdefz"), Scenes.crowd(23, 1),
                x -> x.add(5));
        Scenes.dueFull("add of 11 pages with 9 free", Scenes.crowd(23, 2, "Abcdefz"), Scenes.crowd(23, 2),
                x -> x.add(5));
        Scenes.dueHolds("add of 10 pages with 10 free", Scenes.crowd(23, 1, "Abcdez"), 10, 24, x -> x.add(5));
        ListedNames y = Scenes.crowd(23, 1);
        Checks.due("add that is refused", Checks.enter(y, "Abcdefz", 5), ListedNames.FULL);
        Checks.due("add: FULL gave no serial", Checks.enter(y, "Z", 5), 24);
    }

    private static void fullBeforeCut() {
        Checks.of("FULL when there are 24 or it is refused, CUT: what is refused makes no write");
        ListedNames x = Scenes.crowd(23, 1, "Abcdefz");
        x.failAfter(6);
        Checks.due("add that is refused", x.add(5), ListedNames.FULL);
        Checks.due("add of 6 writes with 6 left", Checks.enter(x, "Z", 5), 24);
        Checks.due("add to 24, none left", Checks.enter(x, "Y", 5), ListedNames.FULL);
        Checks.due("isOn()", x.isOn(), true);
        Checks.due("writes()", x.writes(), 6);
    }

    private static void cut() {
        Checks.of("CUT");
        for (int n = 0; n <= 12; n++) {
            ListedNames x = Scenes.crowd(23, 0, "Abcdefz");
            x.failAfter(n);
            boolean holds = n == 12;
            Checks.due("add of 12 writes with " + n + " left", x.add(5), holds ? 24 : ListedNames.CUT);
            Checks.due("isOn()", x.isOn(), holds);
            Checks.due("writes()", x.writes(), n);
            x.start();
            Checks.due("serial()", x.serial(), holds ? 24 : ListedNames.NONE);
            Checks.due("count()", x.count(), holds ? 24 : 23);
            Checks.due("free()", x.free(), holds ? 9 : 11);
            Checks.due("add: a serial that was not given is the next", Checks.enter(x, "Z", 5),
                    holds ? ListedNames.FULL : 24);
        }
    }

    private static void whenPowerIsOff() {
        Checks.of("IllegalStateException when power is off");
        ListedNames empty = Scenes.off();
        Checks.dueOff("add(5)", () -> empty.add(5));
        empty.start();
        Checks.due("add(5) when started", empty.add(5), 1);
        ListedNames x = Scenes.off("A", "B");
        Checks.dueOff("add(5) of a name that is there", () -> x.add(5));
        Checks.hand(x, "C");
        Checks.dueOff("add(5) of a name that is not there", () -> x.add(5));
        Checks.due("writes()", x.writes(), 0);
        x.start();
        Checks.due("count()", x.count(), 2);
        Checks.due("add(5) when started", x.add(5), 3);
        ListedNames most = Scenes.off(Scenes.crowdNames(24, 0));
        Checks.hand(most, "Z");
        Checks.dueOff("add(5) with 24", () -> most.add(5));
    }
}
