/** Promise 2: name. */
public final class NameTest {
    private NameTest() {
    }

    public static void main(String[] args) {
        lowestBytesFirst();
        bytesAboveAreNoPart();
        onAndOff();
        becomesAnother();
        wrongLengths();
        wrongBytes();
        everyByte();
        wrongNamesChangeNothing();
        Checks.end();
    }

    private static long foundWith(ListedNames x) {
        int serial = x.add(5);
        x.next(serial - 1);
        return x.found();
    }

    private static void lowestBytesFirst() {
        Checks.of("The name at hand becomes that of the n lowest bytes of w, the lowest first");
        ListedNames x = new ListedNames();
        x.name(0x0262, 2);
        Checks.due("found()", foundWith(x), 0x0262);
        x.name(0x0361, 2);
        Checks.due("rank(): 0x61 is the first byte, before 0x62", x.rank(), 0);
        x.name(0x62, 1);
        Checks.due("rank(): a beginning", x.rank(), 0);
        x.name(0x6202, 2);
        Checks.due("serial() of the bytes turned round", x.serial(), ListedNames.NONE);
        x.name(0xFFFEFDFCFBFAF9L, 7);
        Checks.due("found() of seven bytes", foundWith(x), 0xFFFEFDFCFBFAF9L);
        x.name(-1L, 7);
        Checks.due("found() of seven bytes 255", foundWith(x), 0xFFFFFFFFFFFFFFL);
    }

    private static void bytesAboveAreNoPart() {
        Checks.of("the n lowest bytes of w");
        for (int n = 1; n <= 7; n++) {
            long low = 0x47464544434241L & (1L << (8 * n)) - 1;
            long[] above = {0, 47, 1, 255, -1};
            ListedNames x = new ListedNames();
            x.name(low, n);
            x.add(5);
            for (long value : above) {
                x.name(low | value << (8 * n), n);
                Checks.due("serial(), " + value + " above " + n + " bytes", x.serial(), 1);
            }
        }
    }

    private static void onAndOff() {
        Checks.of("(power on or off)");
        ListedNames x = Scenes.off("A");
        x.name(66, 1);
        Checks.dueWrong("name(0, 1) when off", () -> x.name(0, 1));
        Checks.dueWrong("name(47, 1) when off", () -> x.name(47, 1));
        Checks.dueWrong("name(67, 0) when off", () -> x.name(67, 0));
        Checks.dueWrong("name(67, 8) when off", () -> x.name(67, 8));
        x.start();
        Checks.due("found(): named while power was off", foundWith(x), 66);
        x.name(67, 1);
        Checks.due("found(): named while power is on", foundWith(x), 67);
    }

    private static void becomesAnother() {
        Checks.of("The name at hand becomes");
        ListedNames x = Scenes.with("abcdefg", "B");
        Checks.due("listed(0, 1)", x.listed(0, 1), 2);
        Checks.dueWrong("listed(0, 2): nothing is left of a longer name", () -> x.listed(0, 2));
        Checks.hand(x, "abcdefg");
        Checks.due("serial()", x.serial(), 1);
        Checks.due("count(): no entry changes", x.count(), 2);
        Checks.due("found()", x.found(), Checks.word("B"));
    }

    private static void wrongLengths() {
        Checks.of("IllegalArgumentException when n is not 1 .. 7");
        long w = 0x4242424242424242L;
        int[] lengths = {0, 8, -1, 9, 64, 256 + 1, Integer.MIN_VALUE, Integer.MIN_VALUE + 1, Integer.MAX_VALUE};
        for (int n : lengths) {
            Checks.dueWrong("name(w, " + n + ")", () -> new ListedNames().name(w, n));
        }
        for (int n = 1; n <= 7; n++) {
            ListedNames x = new ListedNames();
            x.name(w, n);
            Checks.due("found() of " + n + " bytes", foundWith(x), w & (1L << (8 * n)) - 1);
        }
    }

    private static void wrongBytes() {
        Checks.of("or one of these is 0 or 47");
        for (int n = 1; n <= 7; n++) {
            for (int i = 0; i < 7; i++) {
                long others = 0x42424242424242L & ~(255L << (8 * i));
                dueByte(others, n, i < n);
                dueByte(others | 47L << (8 * i), n, i < n);
                dueByte(others | 46L << (8 * i), n, false);
                dueByte(others | 48L << (8 * i), n, false);
                dueByte(others | 1L << (8 * i), n, false);
            }
        }
    }

    private static void dueByte(long w, int n, boolean wrong) {
        ListedNames x = new ListedNames();
        String call = "name(0x" + Long.toHexString(w) + ", " + n + ")";
        if (wrong) {
            Checks.dueWrong(call, () -> x.name(w, n));
        } else {
            x.name(w, n);
            Checks.due("found() of " + call, foundWith(x), w & (1L << (8 * n)) - 1);
        }
    }

    private static void everyByte() {
        Checks.of("0 or 47, and no other");
        for (int value = 0; value < 256; value++) {
            dueByte(value, 1, value == 0 || value == 47);
            dueByte((long) value << 48 | 0x424242424242L, 7, value == 0 || value == 47);
        }
    }

    private static void wrongNamesChangeNothing() {
        Checks.of("IllegalArgumentException: the name at hand stays");
        ListedNames x = Scenes.with("ab", "cd");
        Checks.dueWrong("name(w, 0)", () -> x.name(0x4242, 0));
        Checks.dueWrong("name(w, 8)", () -> x.name(0x4242424242424242L, 8));
        Checks.dueWrong("name with 0 behind other bytes", () -> x.name(0x004242, 3));
        Checks.dueWrong("name with 47 behind other bytes", () -> x.name(0x2F4242, 3));
        Checks.due("serial()", x.serial(), 2);
        Checks.due("listed(0, 2)", x.listed(0, 2), 2);
        Checks.dueWrong("listed(0, 3)", () -> x.listed(0, 3));
    }
}
