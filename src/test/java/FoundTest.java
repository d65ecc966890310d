/** Promise 12: found. */
public final class FoundTest {
    private FoundTest() {
    }

    public static void main(String[] args) {
        bytesOfTheName();
        theNameThatItHasNow();
        theOneWithItsSerial();
        zeroWhenNoneWasFound();
        zeroWhenItIsRemoved();
        staysThroughOtherCalls();
        staysWhenAChangeIsRefusedOrAnsweredNone();
        whenPowerIsOff();
        Checks.end();
    }

    private static void bytesOfTheName() {
        Checks.of("The bytes of the name that the entry found has, the lowest first");
        long[] words = {1, 255, 0x0102, 0xFF01, 0x01FF, 0x01020304050607L, 0xFFFFFFFFFFFFFFL, 0x80808080808080L};
        int[] lengths = {1, 1, 2, 2, 2, 7, 7, 7};
        ListedNames x = new ListedNames();
        for (int i = 0; i < words.length; i++) {
            x.name(words[i], lengths[i]);
            Checks.due("add()", x.add(5), i + 1);
        }
        for (int i = 0; i < words.length; i++) {
            x.next(i);
            Checks.due("found() of the serial " + (i + 1), x.found(), words[i]);
        }
    }

    private static void theNameThatItHasNow() {
        Checks.of("that the entry found has now");
        ListedNames x = Scenes.with("A");
        x.next(0);
        String[] names = {"abcdefg", "b", "A"};
        for (String name : names) {
            Checks.hand(x, name);
            x.rename(1);
            Checks.due("found() behind rename(1) to " + name, x.found(), Checks.word(name));
        }
        x.replace(5);
        Checks.due("found() behind replace", x.found(), 65);
    }

    private static void theOneWithItsSerial() {
        Checks.of("(the one with its serial)");
        ListedNames x = Scenes.with("A", "C");
        x.next(0);
        Checks.hand(x, "B");
        x.rename(1);
        Checks.due("add of the old name", Checks.enter(x, "A", 5), 3);
        Checks.due("found(): not the one with the old name", x.found(), Checks.word("B"));
        x.listed(0, 0);
        Checks.due("found(): the first in order", x.found(), Checks.word("A"));
        Checks.enter(x, "0", 5);
        Checks.due("found(): though another is the first now", x.found(), Checks.word("A"));
        Checks.hand(x, "B");
        x.remove();
        Checks.due("found(): though another was removed", x.found(), Checks.word("A"));
    }

    private static void zeroWhenNoneWasFound() {
        Checks.of("0 when none was found");
        ListedNames x = new ListedNames();
        Checks.due("found() of a new object", x.found(), 0);
        x.add(5);
        Checks.due("found(): add finds none", x.found(), 0);
        x.next(0);
        x.next(1);
        Checks.due("found() behind next(1): NONE", x.found(), 0);
        x.next(0);
        x.listed(1, 0);
        Checks.due("found() behind listed(1, 0): NONE", x.found(), 0);
        Checks.enter(x, "B", 5);
        Checks.due("found(): an entry that comes later is not found", x.found(), 0);
    }

    private static void zeroWhenItIsRemoved() {
        Checks.of("or it is removed");
        ListedNames x = Scenes.with("A", "B");
        x.next(1);
        x.failAfter(3);
        Checks.due("remove() of 3 writes with 3 left", x.remove(), 2);
        Checks.due("found()", x.found(), 0);
        x.failAfter(ListedNames.NONE);
        Checks.due("add of the same name", x.add(5), 3);
        Checks.due("found(): another serial", x.found(), 0);
        x.next(2);
        Checks.hand(x, "A");
        x.remove();
        Checks.due("found(): another one was removed", x.found(), Checks.word("B"));
        ListedNames y = Scenes.with("A");
        y.listed(0, 1);
        y.remove();
        Checks.due("found(): the only one was removed", y.found(), 0);
    }

    private static void staysThroughOtherCalls() {
        Checks.of("the entry found stays until another call finds one or none");
        ListedNames x = Scenes.with("A", "B", "C");
        x.next(0);
        x.find();
        x.serial();
        x.rank();
        x.count();
        x.free();
        x.writes();
        x.isOn();
        x.start();
        x.replace(7);
        x.remove();
        x.add(7);
        x.failAfter(5);
        x.name(90, 1);
        Checks.due("found()", x.found(), 65);
        Checks.due("found() again", x.found(), 65);
        Checks.dueWrong("name(0, 1)", () -> x.name(0, 1));
        Checks.dueWrong("failAfter(-2)", () -> x.failAfter(-2));
        Checks.dueWrong("listed(0, 2)", () -> x.listed(0, 2));
        Checks.dueMissing("rename(9)", () -> x.rename(9));
        Checks.dueMissing("find()", x::find);
        Checks.due("found() behind calls that throw", x.found(), 65);
    }

    private static void staysWhenAChangeIsRefusedOrAnsweredNone() {
        Checks.of("the entry found stays when a change is refused or answers NONE");
        ListedNames x = Scenes.crowd(24, 1, "Abcdefg");
        x.next(6);
        Checks.due("remove() is refused", x.remove(), ListedNames.FULL);
        Checks.due("add: NONE", x.add(5), ListedNames.NONE);
        Checks.due("rename(7): NONE", x.rename(7), ListedNames.NONE);
        Checks.hand(x, "Abcdz");
        Checks.due("rename(7) is refused", x.rename(7), ListedNames.FULL);
        Checks.due("found()", x.found(), Checks.word("Abcdefg"));
    }

    private static void whenPowerIsOff() {
        Checks.of("IllegalStateException when power is off");
        ListedNames x = Scenes.with("A");
        x.next(0);
        x.failAfter(0);
        Checks.due("found(): power is still on", x.found(), 65);
        Checks.due("replace() when power fails", x.replace(5), ListedNames.CUT);
        Checks.dueOff("found()", x::found);
        x.start();
        Checks.due("found() when started: none", x.found(), 0);
        Checks.dueOff("found() of no entries", Scenes.off()::found);
    }
}
