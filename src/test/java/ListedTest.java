/** Promise 10: listed. */
public final class ListedTest {
    private ListedTest() {
    }

    public static void main(String[] args) {
        inTheOrderOfNames();
        ofThoseThatBeginSo();
        namesShorterThanTheBeginning();
        beginningsAtTheEdgesOfBytes();
        noneWhenThereAreNotSoMany();
        noneWhenKIsBelow0();
        noneOfNoEntries();
        of24Entries();
        thatEntryIsFound();
        noneIsFound();
        whenPowerIsOff();
        wrongLengths();
        wrongLengthsChangeNothing();
        Checks.end();
    }

    /** Six entries, in the order of names 5 2 4 3 6 1; "abd" is at hand. */
    private static ListedNames six() {
        ListedNames x = Scenes.with("b", "ab", "abd", "abc", "a", "ac");
        Checks.hand(x, "abd");
        return x;
    }

    /** Asks for each due serial, for the one behind the last, and for the one before the first. */
    private static void dueList(ListedNames x, int n, int... serials) {
        for (int k = 0; k < serials.length; k++) {
            Checks.due("listed(" + k + ", " + n + ")", x.listed(k, n), serials[k]);
        }
        Checks.due("listed(" + serials.length + ", " + n + ")", x.listed(serials.length, n), ListedNames.NONE);
        Checks.due("listed(-1, " + n + ")", x.listed(-1, n), ListedNames.NONE);
    }

    private static void inTheOrderOfNames() {
        Checks.of("The serial of the k-th entry (from 0), in the order of names");
        dueList(six(), 0, 5, 2, 4, 3, 6, 1);
        String[] ordered = {"\u0001", "\u0001\u0001", "\u0001\u00ff", ".", "0", "\u007f", "\u0080", "\u00ff",
            "\u00ff\u0001", "\u00ff\u00ff", "\u00ff\u00ff\u00ff\u00ff\u00ff\u00ff\u00ff"};
        ListedNames x = new ListedNames();
        for (int i = ordered.length - 1; i >= 0; i--) {
            Checks.enter(x, ordered[i], i);
        }
        dueList(x, 0, 11, 10, 9, 8, 7, 6, 5, 4, 3, 2, 1);
        Checks.hand(x, "zz");
        x.rename(11);
        dueList(x, 0, 10, 9, 8, 7, 11, 6, 5, 4, 3, 2, 1);
    }

    private static void ofThoseThatBeginSo() {
        Checks.of("of those of whose names the first n bytes of the name at hand are a beginning");
        ListedNames x = six();
        dueList(x, 1, 5, 2, 4, 3, 6);
        dueList(x, 2, 2, 4, 3);
        dueList(x, 3, 3);
        Checks.hand(x, "ax");
        dueList(x, 0, 5, 2, 4, 3, 6, 1);
        dueList(x, 1, 5, 2, 4, 3, 6);
        dueList(x, 2);
        Checks.hand(x, "b");
        dueList(x, 1, 1);
        Checks.hand(x, "c");
        dueList(x, 1);
        Checks.hand(x, "Z");
        dueList(x, 1);
        Checks.hand(x, "aa");
        dueList(x, 2);
    }

    private static void namesShorterThanTheBeginning() {
        Checks.of("the first n bytes are a beginning of the name, which is as long or longer");
        ListedNames x = Scenes.with("A", "Ab", "Abc", "Abcd", "Abcde", "Abcdef", "Abcdefg");
        for (int n = 0; n <= 7; n++) {
            int first = n == 0 ? 1 : n;
            Checks.due("listed(0, " + n + ")", x.listed(0, n), first);
            Checks.due("listed(" + (7 - first) + ", " + n + ")", x.listed(7 - first, n), 7);
            Checks.due("listed(" + (8 - first) + ", " + n + ")", x.listed(8 - first, n), ListedNames.NONE);
        }
    }

    private static void beginningsAtTheEdgesOfBytes() {
        Checks.of("the first n bytes of the name at hand are a beginning, at the least and the greatest byte");
        ListedNames x = Scenes.with("a\u00ff", "a\u00ff\u00ff", "b", "a\u0001", "a\u00fe\u00ff", "b\u0001");
        Checks.hand(x, "a\u00ff\u00ff\u00ff\u00ff\u00ff\u00ff");
        dueList(x, 1, 4, 5, 1, 2);
        dueList(x, 2, 1, 2);
        dueList(x, 3, 2);
        dueList(x, 4);
        dueList(x, 7);
        Checks.hand(x, "b\u0001\u0001");
        dueList(x, 1, 3, 6);
        dueList(x, 2, 6);
        dueList(x, 3);
    }

    private static void noneWhenThereAreNotSoMany() {
        Checks.of("NONE when there are not so many");
        ListedNames x = six();
        int[] many = {6, 7, 23, 24, 25, 256, Integer.MAX_VALUE - 1, Integer.MAX_VALUE};
        for (int k : many) {
            for (int n = 0; n <= 3; n++) {
                Checks.due("listed(" + k + ", " + n + ")", x.listed(k, n), ListedNames.NONE);
            }
        }
        Checks.due("listed(5, 0)", x.listed(5, 0), 1);
        Checks.due("listed(5, 1): one of six begins with another byte", x.listed(5, 1), ListedNames.NONE);
        Checks.due("listed(2, 2)", x.listed(2, 2), 3);
        Checks.due("listed(3, 2)", x.listed(3, 2), ListedNames.NONE);
    }

    private static void noneWhenKIsBelow0() {
        Checks.of("(or k is below 0)");
        ListedNames x = six();
        int[] below = {-1, -2, -3, -24, Integer.MIN_VALUE, Integer.MIN_VALUE + 1};
        for (int k : below) {
            for (int n = 0; n <= 3; n++) {
                Checks.due("listed(" + k + ", " + n + ")", x.listed(k, n), ListedNames.NONE);
            }
        }
        Checks.hand(x, "b");
        Checks.due("listed(-1, 1): others stand before", x.listed(-1, 1), ListedNames.NONE);
        Checks.due("listed(0, 1)", x.listed(0, 1), 1);
    }

    private static void noneOfNoEntries() {
        Checks.of("NONE when there are not so many: of no entries");
        ListedNames x = new ListedNames();
        dueList(x, 0);
        dueList(x, 1);
    }

    private static void of24Entries() {
        Checks.of("The serial of the k-th entry, of 24");
        ListedNames x = Scenes.crowd(24, 0);
        int[] all = new int[24];
        for (int i = 0; i < 24; i++) {
            all[i] = i + 1;
        }
        dueList(x, 0, all);
        Checks.hand(x, "A");
        dueList(x, 1, 1, 2, 3, 4, 5, 6, 7);
        Checks.hand(x, "\u00df");
        dueList(x, 1, 24);
    }

    private static void thatEntryIsFound() {
        Checks.of("That entry is found then");
        ListedNames x = six();
        Checks.due("listed(0, 0)", x.listed(0, 0), 5);
        Checks.due("found()", x.found(), Checks.word("a"));
        Checks.due("listed(5, 0)", x.listed(5, 0), 1);
        Checks.due("found()", x.found(), Checks.word("b"));
        Checks.due("listed(1, 2)", x.listed(1, 2), 4);
        Checks.due("found()", x.found(), Checks.word("abc"));
        Checks.due("listed(0, 3)", x.listed(0, 3), 3);
        Checks.due("found()", x.found(), Checks.word("abd"));
    }

    private static void noneIsFound() {
        Checks.of("(none when there is none)");
        ListedNames x = six();
        int[] outside = {-1, 6, Integer.MIN_VALUE, Integer.MAX_VALUE};
        for (int k : outside) {
            x.next(0);
            x.listed(k, 0);
            Checks.due("found() behind listed(" + k + ", 0)", x.found(), 0);
        }
        x.next(0);
        x.listed(3, 2);
        Checks.due("found() behind listed(3, 2)", x.found(), 0);
    }

    private static void whenPowerIsOff() {
        Checks.of("IllegalStateException when power is off");
        ListedNames x = Scenes.off("A", "B");
        int[] numbers = {Integer.MIN_VALUE, -1, 0, 1, 2, 8, Integer.MAX_VALUE};
        for (int number : numbers) {
            Checks.dueOff("listed(" + number + ", 0)", () -> x.listed(number, 0));
            Checks.dueOff("listed(0, " + number + ")", () -> x.listed(0, number));
        }
        x.start();
        Checks.due("found(): none", x.found(), 0);
        Checks.due("listed(1, 0) when started", x.listed(1, 0), 2);
        Checks.dueWrong("listed(0, 2) when started", () -> x.listed(0, 2));
    }

    private static void wrongLengths() {
        Checks.of("IllegalArgumentException when n is not 0 .. the length of the name at hand");
        for (int length = 1; length <= 7; length++) {
            ListedNames x = Scenes.with("abcdefg".substring(0, length));
            int[] wrong = {-1, -2, length + 1, length + 2, 8, 256, Integer.MIN_VALUE, Integer.MAX_VALUE};
            for (int n : wrong) {
                Checks.dueWrong("listed(0, " + n + ") with " + length + " bytes", () -> x.listed(0, n));
            }
            Checks.due("listed(0, 0) with " + length + " bytes", x.listed(0, 0), 1);
            Checks.due("listed(0, " + length + ")", x.listed(0, length), 1);
            int[] numbers = {-1, 1, Integer.MIN_VALUE, Integer.MAX_VALUE};
            for (int k : numbers) {
                Checks.dueWrong("listed(" + k + ", -1)", () -> x.listed(k, -1));
                Checks.dueWrong("listed(" + k + ", 8)", () -> x.listed(k, 8));
            }
        }
        Checks.dueWrong("listed(0, 2) of no entries", () -> new ListedNames().listed(0, 2));
        Checks.dueWrong("listed(0, -1) of no entries", () -> new ListedNames().listed(0, -1));
    }

    private static void wrongLengthsChangeNothing() {
        Checks.of("IllegalArgumentException: the entry found stays");
        ListedNames x = six();
        Checks.due("listed(0, 1)", x.listed(0, 1), 5);
        Checks.dueWrong("listed(0, 4)", () -> x.listed(0, 4));
        Checks.dueWrong("listed(9, -1)", () -> x.listed(9, -1));
        Checks.due("found()", x.found(), Checks.word("a"));
    }
}
