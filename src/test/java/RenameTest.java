/** Promise 6: rename. */
public final class RenameTest {
    private RenameTest() {
    }

    public static void main(String[] args) {
        getsTheNameAtHand();
        theSerialStays();
        noneWhenAnEntryHasThatName();
        noneForItsOwnName();
        with24Entries();
        full();
        fullOrNotByOldAndNewName();
        cut();
        whenPowerIsOff();
        missingSerials();
        missingBeforeNone();
        Checks.end();
    }

    private static void getsTheNameAtHand() {
        Checks.of("The entry with a serial gets the name at hand");
        ListedNames x = Scenes.with("a", "ab", "abc");
        Checks.hand(x, "zz");
        Checks.due("rename(2)", x.rename(2), 2);
        Checks.due("find(): the target stays", x.find(), 102);
        Checks.due("count()", x.count(), 3);
        Checks.hand(x, "ab");
        Checks.due("serial(): the old name is gone", x.serial(), ListedNames.NONE);
        Checks.due("all", Scenes.told(x), "3 entries, 51 pages free, listed 1 3 2; "
                + "1 61 101; 2 7a7a 102; 3 636261 103");
        Checks.hand(x, "abcdefg");
        Checks.due("rename(1) to a longer one", x.rename(1), 1);
        Checks.hand(x, "a");
        Checks.due("rename(3) to one that was given up", x.rename(3), 3);
        Checks.due("all", Scenes.told(x), "3 entries, 51 pages free, listed 3 1 2; "
                + "1 67666564636261 101; 2 7a7a 102; 3 61 103");
    }

    private static void theSerialStays() {
        Checks.of("the serial");
        ListedNames x = Scenes.with("a", "b", "c");
        String[] names = {"z", "0", "b\u0001", "bb", "zzzzzzz"};
        for (String name : names) {
            Checks.hand(x, name);
            Checks.due("rename(2) to " + name, x.rename(2), 2);
            Checks.due("serial()", x.serial(), 2);
            Checks.due("next(1): the order of serials stays", x.next(1), 2);
            Checks.due("found()", x.found(), Checks.word(name));
        }
        Checks.due("add: rename gives no serial", Checks.enter(x, "b", 5), 4);
    }

    private static void noneWhenAnEntryHasThatName() {
        Checks.of("NONE when an entry has that name");
        ListedNames x = Scenes.with("mm", "b");
        Checks.hand(x, "mm");
        x.failAfter(0);
        Checks.due("rename(2)", x.rename(2), ListedNames.NONE);
        Checks.due("isOn(): NONE makes no write", x.isOn(), true);
        Checks.due("writes()", x.writes(), 6);
        x.failAfter(ListedNames.NONE);
        Checks.due("all", Scenes.told(x), "2 entries, 53 pages free, listed 2 1; 1 6d6d 101; 2 62 102");
        String[] near = {"m", "mmm", "ml", "mn", "mm\u0001"};
        for (String name : near) {
            Checks.hand(x, name);
            Checks.due("rename(2) to " + name, x.rename(2), 2);
        }
        Checks.hand(x, "mm");
        Checks.due("remove()", x.remove(), 1);
        Checks.due("rename(2) when it is removed", x.rename(2), 2);
        ListedNames full = Scenes.crowd(24, 2);
        Checks.hand(full, "Abcdefg");
        Checks.due("rename(24): the name is there, with little room", full.rename(24), ListedNames.NONE);
    }

    private static void noneForItsOwnName() {
        Checks.of("(this one, too)");
        ListedNames x = Scenes.with("A");
        x.failAfter(0);
        Checks.due("rename(1)", x.rename(1), ListedNames.NONE);
        Checks.due("isOn()", x.isOn(), true);
        Checks.due("writes()", x.writes(), 5);
        x.failAfter(ListedNames.NONE);
        Checks.hand(x, "B");
        Checks.due("rename(1)", x.rename(1), 1);
        Checks.due("rename(1) again", x.rename(1), ListedNames.NONE);
        Checks.hand(x, "A");
        Checks.due("rename(1) back", x.rename(1), 1);
    }

    private static void with24Entries() {
        Checks.of("At most 24 entries: rename makes none");
        ListedNames x = Scenes.crowd(24, 0, "Z");
        Checks.due("rename(24) with 24", x.rename(24), 24);
        Checks.due("count()", x.count(), 24);
        Checks.due("free()", x.free(), 9);
    }

    private static void full() {
        Checks.of("FULL");
        Scenes.dueHolds("rename(24) of 8 pages with 9 free", Scenes.crowd(24, 0, "Abcz"), 8, 24, x -> x.rename(24));
        Scenes.dueHolds("rename(24) of 9 pages with 9 free", Scenes.crowd(24, 0, "Abcdz"), 9, 24, x -> x.rename(24));
        Scenes.dueFull("rename(24) of 9 pages with 8 free", Scenes.crowd(24, 1, "Abcdz"), Scenes.crowd(24, 1),
                x -> x.rename(24));
        Scenes.dueFull("rename(24) of 9 pages with 7 free", Scenes.crowd(24, 2, "Abcdz"), Scenes.crowd(24, 2),
                x -> x.rename(24));
        Scenes.dueHolds("rename(24) of 8 pages with 8 free", Scenes.crowd(24, 1, "Abcz"), 8, 24, x -> x.rename(24));
    }

    private static void fullOrNotByOldAndNewName() {
        Checks.of("FULL: pages of the old name or the new one");
        Scenes.dueHolds("rename(4) of 8 pages with 9 free", Scenes.crowd(24, 0, "z"), 8, 4, x -> x.rename(4));
        Scenes.dueHolds("rename(5) of 9 pages with 9 free", Scenes.crowd(24, 0, "z"), 9, 5, x -> x.rename(5));
        Scenes.dueFull("rename(5) of 9 pages with 8 free", Scenes.crowd(24, 1, "z"), Scenes.crowd(24, 1),
                x -> x.rename(5));
        Scenes.dueFull("rename(6) of 10 pages with 9 free", Scenes.crowd(24, 0, "z"), Scenes.crowd(24, 0),
                x -> x.rename(6));
        Scenes.dueHolds("rename(5) of 9 pages with 9 free", Scenes.crowd(24, 0, "Abcdz"), 9, 5, x -> x.rename(5));
        Scenes.dueFull("rename(8) of 9 pages with 8 free", Scenes.crowd(24, 1, "Abcdz"), Scenes.crowd(24, 1),
                x -> x.rename(8));
        Scenes.dueHolds("rename(8) of 7 pages with 7 free", Scenes.crowd(24, 2, "Abz"), 7, 8, x -> x.rename(8));
    }

    private static void cut() {
        Checks.of("CUT");
        for (int n = 0; n <= 10; n++) {
            ListedNames x = Scenes.crowd(24, 0, "Abcdz");
            x.failAfter(n);
            boolean holds = n == 10;
            Checks.due("rename(24) of 10 writes with " + n + " left", x.rename(24), holds ? 24 : ListedNames.CUT);
            Checks.due("isOn()", x.isOn(), holds);
            Checks.due("writes()", x.writes(), n);
            x.start();
            Checks.due("serial()", x.serial(), holds ? 24 : ListedNames.NONE);
            Checks.due("next(23)", x.next(23), 24);
            Checks.due("found()", x.found(), holds ? Checks.word("Abcdz") : 223);
            Checks.due("count()", x.count(), 24);
        }
    }

    private static void whenPowerIsOff() {
        Checks.of("IllegalStateException when power is off");
        ListedNames x = Scenes.off("A", "B");
        Checks.dueOff("rename(2) to its own name", () -> x.rename(2));
        Checks.dueOff("rename(1) to another's name", () -> x.rename(1));
        Checks.dueOff("rename(3): no such serial", () -> x.rename(3));
        Checks.hand(x, "C");
        Checks.dueOff("rename(2)", () -> x.rename(2));
        Checks.dueOff("rename(3): no such serial", () -> x.rename(3));
        x.start();
        Checks.due("rename(2) when started", x.rename(2), 2);
        ListedNames empty = Scenes.off();
        Checks.dueOff("rename(1) of no entries", () -> empty.rename(1));
    }

    private static void missingSerials() {
        Checks.of("NoSuchElementException when there is no entry with that serial");
        ListedNames x = Scenes.with("a", "b", "c", "d");
        Checks.hand(x, "b");
        Checks.due("remove()", x.remove(), 2);
        Checks.hand(x, "z");
        int[] missing = {0, 2, 5, -1, -2, -3, 257, Integer.MIN_VALUE, Integer.MAX_VALUE};
        x.failAfter(0);
        for (int serial : missing) {
            Checks.dueMissing("rename(" + serial + ")", () -> x.rename(serial));
        }
        Checks.due("isOn(): what throws makes no write", x.isOn(), true);
        Checks.due("writes()", x.writes(), 4);
        Checks.due("serial()", x.serial(), ListedNames.NONE);
        x.failAfter(2);
        Checks.due("add when power fails", x.add(5), ListedNames.CUT);
        x.start();
        Checks.dueMissing("rename(5): not given", () -> x.rename(5));
        int[] there = {1, 3, 4};
        for (int serial : there) {
            Checks.hand(x, "z" + serial);
            Checks.due("rename(" + serial + ")", x.rename(serial), serial);
        }
    }

    private static void missingBeforeNone() {
        Checks.of("NoSuchElementException when there is no entry with that serial, the name being there or not");
        ListedNames x = Scenes.with("A", "B");
        Checks.dueMissing("rename(3), the name is there", () -> x.rename(3));
        Checks.dueMissing("rename(0), the name is there", () -> x.rename(0));
        Checks.due("remove()", x.remove(), 2);
        Checks.hand(x, "A");
        Checks.dueMissing("rename(2), the name is there", () -> x.rename(2));
        ListedNames full = Scenes.crowd(24, 2, "Abcdz");
        Checks.dueMissing("rename(25), no room", () -> full.rename(25));
    }
}
