/** Promise 9: next. */
public final class NextTest {
    private NextTest() {
    }

    public static void main(String[] args) {
        leastSerialAbove();
        goesOnThroughChanges();
        noneWhenThereIsNone();
        thatEntryIsFound();
        noneIsFound();
        whenPowerIsOff();
        Checks.end();
    }

    private static ListedNames withGaps() {
        ListedNames x = Scenes.with("f", "e", "d", "c", "b", "a");
        String[] removed = {"f", "d", "c"};
        for (String name : removed) {
            Checks.hand(x, name);
            x.remove();
        }
        return x;
    }

    private static void leastSerialAbove() {
        Checks.of("The least serial of an entry above cookie");
        ListedNames x = withGaps();
        int[] cookies = {Integer.MIN_VALUE, Integer.MIN_VALUE + 1, -3, -2, -1, 0, 1, 2, 3, 4, 5};
        int[] serials = {2, 2, 2, 2, 2, 2, 2, 5, 5, 5, 6};
        for (int i = 0; i < cookies.length; i++) {
            Checks.due("next(" + cookies[i] + ")", x.next(cookies[i]), serials[i]);
        }
        ListedNames most = Scenes.crowd(24, 0);
        for (int cookie = 0; cookie < 24; cookie++) {
            Checks.due("next(" + cookie + ") of 24", most.next(cookie), cookie + 1);
        }
        Checks.due("next(24) of 24", most.next(24), ListedNames.NONE);
    }

    private static void goesOnThroughChanges() {
        Checks.of("a serial, kept through renames, by which a listing goes on where it was");
        ListedNames x = Scenes.with("b", "c", "d");
        Checks.due("next(0)", x.next(0), 1);
        Checks.hand(x, "z");
        Checks.due("rename(2)", x.rename(2), 2);
        Checks.due("next(1)", x.next(1), 2);
        Checks.due("remove() of the one found", x.remove(), 2);
        Checks.due("next(2)", x.next(2), 3);
        Checks.due("add of a name before all", Checks.enter(x, "a", 5), 4);
        Checks.due("next(3)", x.next(3), 4);
        Checks.due("next(4)", x.next(4), ListedNames.NONE);
    }

    private static void noneWhenThereIsNone() {
        Checks.of("NONE when there is none");
        int[] cookies = {Integer.MIN_VALUE, -1, 0, 1, Integer.MAX_VALUE};
        for (int cookie : cookies) {
            Checks.due("next(" + cookie + ") of no entries", new ListedNames().next(cookie), ListedNames.NONE);
        }
        ListedNames x = withGaps();
        int[] above = {6, 7, 255, 256, Integer.MAX_VALUE - 1, Integer.MAX_VALUE};
        for (int cookie : above) {
            Checks.due("next(" + cookie + ")", x.next(cookie), ListedNames.NONE);
        }
        Checks.hand(x, "a");
        x.remove();
        Checks.due("next(5) when 6 is removed", x.next(5), ListedNames.NONE);
    }

    private static void thatEntryIsFound() {
        Checks.of("That entry is found then");
        ListedNames x = withGaps();
        Checks.due("next(0)", x.next(0), 2);
        Checks.due("found()", x.found(), Checks.word("e"));
        Checks.due("next(2)", x.next(2), 5);
        Checks.due("found()", x.found(), Checks.word("b"));
        Checks.due("next(5)", x.next(5), 6);
        Checks.due("found()", x.found(), Checks.word("a"));
        Checks.due("next(MIN)", x.next(Integer.MIN_VALUE), 2);
        Checks.due("found()", x.found(), Checks.word("e"));
    }

    private static void noneIsFound() {
        Checks.of("(none when there is none)");
        ListedNames x = withGaps();
        int[] above = {6, 7, Integer.MAX_VALUE};
        for (int cookie : above) {
            x.next(0);
            x.next(cookie);
            Checks.due("found() behind next(" + cookie + ")", x.found(), 0);
        }
    }

    private static void whenPowerIsOff() {
        Checks.of("IllegalStateException when power is off");
        ListedNames x = Scenes.off("A", "B");
        int[] cookies = {Integer.MIN_VALUE, -1, 0, 1, 2, Integer.MAX_VALUE};
        for (int cookie : cookies) {
            Checks.dueOff("next(" + cookie + ")", () -> x.next(cookie));
        }
        x.start();
        Checks.due("found(): none", x.found(), 0);
        Checks.due("next(0) when started", x.next(0), 1);
        ListedNames empty = Scenes.off();
        Checks.dueOff("next(0) of no entries", () -> empty.next(0));
    }
}
