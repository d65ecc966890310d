/** Promise 14: free. */
public final class FreeTest {
    private FreeTest() {
    }

    public static void main(String[] args) {
        ofNoEntries();
        lessAndMore();
        theFewest();
        changesThatDoNotHold();
        whenPowerIsOff();
        Checks.end();
    }

    private static void ofNoEntries() {
        Checks.of("How many pages are free: 60 less the empty row of names and that of serials");
        ListedNames x = new ListedNames();
        Checks.due("free()", x.free(), 58);
        x.remove();
        Checks.due("free() behind remove of none", x.free(), 58);
    }

    private static void lessAndMore() {
        Checks.of("How many pages are free");
        ListedNames x = new ListedNames();
        String[] names = {"abcdefg", "abcdefh", "abx", "abcd", "abcdef", "ab", "y"};
        int[] free = {56, 52, 49, 47, 46, 45, 43};
        for (int i = 0; i < names.length; i++) {
            Checks.enter(x, names[i], i);
            Checks.due("free() with " + names[i], x.free(), free[i]);
        }
        Checks.hand(x, "abcdef");
        x.remove();
        Checks.due("free(): the place stays, the serial's goes", x.free(), 44);
        Checks.hand(x, "abcdefh");
        x.remove();
        Checks.due("free(): the common beginning goes, too", x.free(), 47);
        Checks.hand(x, "abcdefg");
        x.replace(5);
        Checks.due("free(): replace takes none", x.free(), 47);
        Checks.hand(x, "abcz");
        x.rename(7);
        Checks.due("free(): rename makes a common beginning", x.free(), 46);
    }

    /** Each change that takes pages must write the places on its way, so not all pages can be taken. */
    private static void theFewest() {
        Checks.of("How many pages are free: few");
        ListedNames x = Scenes.crowd(24, 4);
        Checks.due("free()", x.free(), 5);
        Checks.hand(x, "Z");
        Checks.due("rename(24) of 5 pages", x.rename(24), 24);
        Checks.due("free()", x.free(), 5);
        Checks.hand(x, "Zx");
        Checks.due("rename(23) of 6 pages", x.rename(23), ListedNames.FULL);
        Checks.hand(x, "\u00df");
        Checks.due("rename(8): a pair goes apart", x.rename(8), 8);
        Checks.due("free()", x.free(), 6);
    }

    private static void changesThatDoNotHold() {
        Checks.of("FREE are those of the 60 that neither takes, by changes that hold");
        ListedNames x = Scenes.with("A", "B");
        Checks.hand(x, "C");
        for (int n = 0; n <= 5; n++) {
            x.failAfter(n);
            Checks.due("add of 6 writes", x.add(5), ListedNames.CUT);
            x.start();
            Checks.due("free(): pages written in vain are free again", x.free(), 53);
        }
        x.failAfter(6);
        Checks.due("add of 6 writes", x.add(5), 3);
        Checks.due("free()", x.free(), 51);
    }

    private static void whenPowerIsOff() {
        Checks.of("IllegalStateException when power is off");
        ListedNames x = Scenes.off("A", "B");
        Checks.dueOff("free()", x::free);
        x.start();
        Checks.due("free() when started", x.free(), 53);
        Checks.dueOff("free() of no entries", Scenes.off()::free);
    }
}
