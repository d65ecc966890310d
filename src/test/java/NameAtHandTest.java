/** Promises 1 (a new object) and 2 (name). */
public final class NameAtHandTest {
    private NameAtHandTest() {
    }

    public static void main(String[] args) {
        newObject();
        bytesLowestFirst();
        allByteValues();
        wrongLengths();
        wrongBytes();
        whilePowerIsOff();
        Checks.end();
    }

    private static void newObject() {
        ListedNames x = new ListedNames();
        Checks.due("isOn() of a new object", x.isOn(), true);
        Checks.due("count() of a new object", x.count(), 0);
        Checks.due("free() of a new object", x.free(), 58);
        Checks.due("writes() of a new object", x.writes(), 0);
        Checks.due("found() of a new object", x.found(), 0);
        Checks.due("next(0) of a new object", x.next(0), ListedNames.NONE);
        Checks.due("listed(0, 1) of a new object", x.listed(0, 1), ListedNames.NONE);
        Checks.due("start() of a new object", x.start(), false);
        Checks.dueThrow("listed(0, 2) with the first name", IllegalArgumentException.class, () -> x.listed(0, 2));
        Checks.due("add(3) with the first name", x.add(3), 1);
        Checks.due("listed(0, 1)", x.listed(0, 1), 1);
        Checks.due("found() is the byte 65", x.found(), 65);
        ListedNames other = new ListedNames();
        Checks.due("count() of a second object", other.count(), 0);
    }

    private static void bytesLowestFirst() {
        ListedNames x = new ListedNames();
        x.name(0xFF07060504030201L, 7);
        x.add(1);
        x.next(0);
        Checks.due("found(): the eighth byte is no part", x.found(), 0x07060504030201L);
        x.name(0x2F00000000004241L, 2);
        x.add(2);
        x.next(1);
        Checks.due("found(): bytes above n are no part", x.found(), 0x4241L);
        x.name(-1L, 7);
        x.add(3);
        x.next(2);
        Checks.due("found(): seven bytes 255", x.found(), 0xFFFFFFFFFFFFFFL);
        x.name(0x41, 1);
        Checks.due("rank(): the lowest byte is the first", x.rank(), 1);
    }

    private static void allByteValues() {
        ListedNames x = new ListedNames();
        for (int value = 0; value < 256; value++) {
            final int w = value;
            if (w == 0 || w == 47) {
                Checks.dueThrow("name(" + w + ", 1)", IllegalArgumentException.class, () -> x.name(w, 1));
            } else {
                x.name(w, 1);
            }
        }
    }

    private static void wrongLengths() {
        ListedNames x = new ListedNames();
        int[] lengths = {0, 8, -1, 9, Integer.MIN_VALUE, Integer.MAX_VALUE};
        for (int n : lengths) {
            Checks.dueThrow("name(w, " + n + ")", IllegalArgumentException.class,
                    () -> x.name(0x4242424242424242L, n));
        }
        x.add(5);
        x.next(0);
        Checks.due("found(): the name at hand stayed", x.found(), 65);
    }

    private static void wrongBytes() {
        ListedNames x = new ListedNames();
        for (int i = 0; i < 7; i++) {
            long others = 0x42424242424242L & ~(255L << (8 * i));
            final long slash = others | 47L << (8 * i);
            Checks.dueThrow("name with 0 at " + i, IllegalArgumentException.class, () -> x.name(others, 7));
            Checks.dueThrow("name with 47 at " + i, IllegalArgumentException.class, () -> x.name(slash, 7));
            if (i > 0) {
                new ListedNames().name(others, i);
                new ListedNames().name(slash, i);
            }
        }
        x.add(5);
        x.next(0);
        Checks.due("found(): the name at hand stayed", x.found(), 65);
    }

    private static void whilePowerIsOff() {
        ListedNames x = new ListedNames();
        x.failAfter(0);
        x.add(1);
        x.name(66, 1);
        Checks.dueThrow("name(0, 1) when off", IllegalArgumentException.class, () -> x.name(0, 1));
        x.start();
        x.add(1);
        x.next(0);
        Checks.due("found(): named while power was off", x.found(), 66);
    }
}
