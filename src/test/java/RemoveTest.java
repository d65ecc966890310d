/** Promise 4: remove. */
public final class RemoveTest {
    private RemoveTest() {
    }

    public static void main(String[] args) {
        entryIsRemoved();
        itsSerial();
        theLastAndTheOnlyOne();
        noneWhenThereIsNone();
        full();
        cut();
        whenPowerIsOff();
        Checks.end();
    }

    private static void entryIsRemoved() {
        Checks.of("The entry with the name at hand is removed");
        ListedNames x = Scenes.with("a", "ab", "abc", "b");
        Checks.hand(x, "ab");
        Checks.due("remove()", x.remove(), 2);
        Checks.due("count()", x.count(), 3);
        Checks.dueMissing("find()", x::find);
        Checks.due("serial()", x.serial(), ListedNames.NONE);
        Checks.dueMissing("rename(2)", () -> x.rename(2));
        Checks.due("all that is left", Scenes.told(x), "3 entries, 51 pages free, listed 1 3 4; "
                + "1 61 101; 3 636261 103; 4 62 104");
    }

    private static void itsSerial() {
        Checks.of("its serial");
        ListedNames x = Scenes.crowd(24, 0);
        for (int serial = 24; serial >= 1; serial--) {
            x.next(serial - 1);
            long word = x.found();
            x.name(word, serial <= 7 ? serial : 1);
            Checks.due("remove()", x.remove(), serial);
            Checks.due("count()", x.count(), serial - 1);
        }
        Checks.due("free()", x.free(), 58);
    }

    private static void theLastAndTheOnlyOne() {
        Checks.of("The entry with the name at hand is removed: the first one, the last one, the only one");
        ListedNames x = Scenes.with("a", "b", "c");
        Checks.due("remove() of the last", x.remove(), 3);
        Checks.hand(x, "a");
        Checks.due("remove() of the first", x.remove(), 1);
        Checks.hand(x, "b");
        Checks.due("find()", x.find(), 102);
        Checks.due("remove() of the only one", x.remove(), 2);
        Checks.due("all that is left", Scenes.told(x), "0 entries, 58 pages free, listed");
    }

    private static void noneWhenThereIsNone() {
        Checks.of("NONE when there is none");
        Checks.due("remove() of no entries", new ListedNames().remove(), ListedNames.NONE);
        ListedNames x = Scenes.with("mm", "mmmm");
        String[] absent = {"m", "mmm", "ml", "mn", "mmmmm", "mm\u0001"};
        x.failAfter(0);
        for (String name : absent) {
            Checks.hand(x, name);
            Checks.due("remove() of " + name, x.remove(), ListedNames.NONE);
        }
        Checks.due("isOn(): NONE makes no write", x.isOn(), true);
        Checks.due("writes()", x.writes(), 7);
        Checks.due("count()", x.count(), 2);
        x.failAfter(ListedNames.NONE);
        Checks.hand(x, "mm");
        Checks.due("remove()", x.remove(), 1);
        Checks.due("remove() again", x.remove(), ListedNames.NONE);
    }

    private static void full() {
        Checks.of("FULL");
        Scenes.dueHolds("remove() of 8 pages with 9 free", Scenes.crowd(24, 0, "Abcdef"), 8, 6, x -> x.remove());
        Scenes.dueHolds("remove() of 9 pages with 9 free", Scenes.crowd(24, 0, "Abcdefg"), 9, 7, x -> x.remove());
        Scenes.dueFull("remove() of 9 pages with 8 free", Scenes.crowd(24, 1, "Abcdefg"), Scenes.crowd(24, 1),
                x -> x.remove());
        Scenes.dueFull("remove() of 9 pages with 7 free", Scenes.crowd(24, 2, "Abcdefg"), Scenes.crowd(24, 2),
                x -> x.remove());
        Scenes.dueHolds("remove() of 8 pages with 8 free", Scenes.crowd(24, 1, "Abcdef"), 8, 6, x -> x.remove());
    }

    private static void cut() {
        Checks.of("CUT");
        for (int n = 0; n <= 10; n++) {
            ListedNames x = Scenes.crowd(24, 0, "Abcdefg");
            x.failAfter(n);
            boolean holds = n == 10;
            Checks.due("remove() of 10 writes with " + n + " left", x.remove(), holds ? 7 : ListedNames.CUT);
            Checks.due("isOn()", x.isOn(), holds);
            Checks.due("writes()", x.writes(), n);
            x.start();
            Checks.due("serial()", x.serial(), holds ? ListedNames.NONE : 7);
            Checks.due("count()", x.count(), holds ? 23 : 24);
            Checks.due("free()", x.free(), holds ? 11 : 9);
        }
    }

    private static void whenPowerIsOff() {
        Checks.of("IllegalStateException when power is off");
        ListedNames x = Scenes.off("A", "B");
        Checks.dueOff("remove()", x::remove);
        Checks.hand(x, "C");
        Checks.dueOff("remove() of a name that is not there", x::remove);
        Checks.hand(x, "B");
        x.start();
        Checks.due("count()", x.count(), 2);
        Checks.due("remove() when started", x.remove(), 2);
        ListedNames empty = Scenes.off();
        Checks.dueOff("remove() of no entries", empty::remove);
    }
}
