/** Terms: names and their order, the name at hand, the entry found, entries and their serials. */
public final class TermsNamesTest {
    private TermsNamesTest() {
    }

    public static void main(String[] args) {
        lengthOfNames();
        bytesOfNames();
        noByte47();
        orderByTheFirstBytesThatDiffer();
        orderWithoutSign();
        beginningsComeBefore();
        beginningsOfNoneAndOfAllBytes();
        firstNameAtHand();
        firstEntryFound();
        targets();
        firstSerial();
        serialBehindRemovals();
        serialBehindChangesThatDoNotHold();
        latestSerials();
        mostEntries();
        Checks.end();
    }

    private static void lengthOfNames() {
        Checks.of("A NAME has 1 .. 7 bytes");
        long w = 0x4847464544434241L;
        Checks.dueWrong("name of 0 bytes", () -> new ListedNames().name(w, 0));
        Checks.dueWrong("name of 8 bytes", () -> new ListedNames().name(w, 8));
        for (int n = 1; n <= 7; n++) {
            dueName(w, n, w & (1L << (8 * n)) - 1);
        }
    }

    /** The name is taken as it is: its entry can be found, and listed by all of its bytes. */
    private static void dueName(long w, int n, long word) {
        ListedNames x = new ListedNames();
        x.name(w, n);
        Checks.due("add of " + Long.toHexString(word), x.add(5), 1);
        Checks.due("listed(0, " + n + ")", x.listed(0, n), 1);
        Checks.due("found()", x.found(), word);
        Checks.dueWrong("listed(0, " + (n + 1) + ")", () -> x.listed(0, n + 1));
    }

    private static void bytesOfNames() {
        Checks.of("bytes (1 .. 255)");
        for (int i = 0; i < 7; i++) {
            long others = 0x42424242424242L & ~(255L << (8 * i));
            Checks.dueWrong("name with 0 at " + i, () -> new ListedNames().name(others, 7));
            int[] values = {1, 2, 127, 128, 254, 255};
            for (int value : values) {
                long word = others | (long) value << (8 * i);
                dueName(word, 7, word);
            }
        }
        Checks.dueWrong("name(256, 1): its lowest byte is 0", () -> new ListedNames().name(256, 1));
        dueName(257, 1, 1);
    }

    private static void noByte47() {
        Checks.of("none of them 47");
        for (int i = 0; i < 7; i++) {
            long others = 0x42424242424242L & ~(255L << (8 * i));
            long one = 1L << (8 * i);
            Checks.dueWrong("name with 47 at " + i, () -> new ListedNames().name(others | 47 * one, 7));
            dueName(others | 46 * one, 7, others | 46 * one);
            dueName(others | 48 * one, 7, others | 48 * one);
        }
    }

    private static void orderByTheFirstBytesThatDiffer() {
        Checks.of("Names are IN ORDER by their first bytes that differ");
        for (int same = 0; same <= 6; same++) {
            String begin = "mmmmmm".substring(0, same);
            String rest = "mmmmmm".substring(same);
            dueOrder(begin + "a" + rest, begin + "b" + rest);
            dueOrder(begin + "a" + rest.replace('m', 'z'), begin + "b" + rest.replace('m', 'a'));
            dueOrder(begin + "a" + rest, begin + "b");
            dueOrder(begin + "a", begin + "b" + rest);
        }
    }

    private static void dueOrder(String before, String behind) {
        ListedNames x = Scenes.with(behind, before);
        String pair = before + " before " + behind;
        Checks.due("listed(0, 0), " + pair, x.listed(0, 0), 2);
        Checks.due("listed(1, 0), " + pair, x.listed(1, 0), 1);
        Checks.due("rank() of the first, " + pair, x.rank(), 0);
        Checks.hand(x, behind);
        Checks.due("rank() of the second, " + pair, x.rank(), 1);
    }

    private static void orderWithoutSign() {
        Checks.of("as numbers without sign");
        String[] begins = {"", "mmm", "mmmmmm", "\u00ff\u00ff\u00ff"};
        for (String begin : begins) {
            dueOrder(begin + "\u0001", begin + "\u00ff");
            dueOrder(begin + "\u007f", begin + "\u0080");
            dueOrder(begin + "\u0080", begin + "\u0081");
            dueOrder(begin + "\u00fe", begin + "\u00ff");
            dueOrder(begin + "\u0001", begin + "\u0002");
        }
    }

    private static void beginningsComeBefore() {
        Checks.of("a BEGINNING of a name comes before it");
        String[] names = {"\u0001\u0001\u0001\u0001\u0001\u0001\u0001", "abcdefg",
            "\u00ff\u00ff\u00ff\u00ff\u00ff\u00ff\u00ff"};
        for (String name : names) {
            for (int length = 1; length < 7; length++) {
                dueOrder(name.substring(0, length), name);
                dueOrder(name.substring(0, length), name.substring(0, length + 1));
            }
        }
    }

    private static void beginningsOfNoneAndOfAllBytes() {
        Checks.of("(any of its first bytes, also none, also all)");
        ListedNames x = Scenes.with("abcdefg");
        for (int n = 0; n <= 7; n++) {
            Checks.due("listed(0, " + n + ")", x.listed(0, n), 1);
        }
        Checks.hand(x, "xbcdefg");
        Checks.due("listed(0, 0): none is a beginning of each", x.listed(0, 0), 1);
        Checks.due("listed(0, 1): another byte", x.listed(0, 1), ListedNames.NONE);
        Checks.hand(x, "abcdefx");
        Checks.due("listed(0, 6): six are the same", x.listed(0, 6), 1);
        Checks.due("listed(0, 7): one of all is another", x.listed(0, 7), ListedNames.NONE);
    }

    private static void firstNameAtHand() {
        Checks.of("There is a NAME AT HAND, at first the single byte 65");
        ListedNames x = new ListedNames();
        Checks.due("listed(0, 1): it has one byte", x.listed(0, 1), ListedNames.NONE);
        Checks.dueWrong("listed(0, 2): and no more", () -> x.listed(0, 2));
        Checks.due("add(7)", x.add(7), 1);
        Checks.due("next(0)", x.next(0), 1);
        Checks.due("found()", x.found(), 65);
        int[] others = {64, 66};
        for (int value : others) {
            x.name(value, 1);
            Checks.due("serial() of " + value, x.serial(), ListedNames.NONE);
        }
        x.name(65, 1);
        Checks.due("serial() of 65", x.serial(), 1);
    }

    private static void firstEntryFound() {
        Checks.of("an ENTRY FOUND, at first none");
        ListedNames x = new ListedNames();
        Checks.due("found() of no entries", x.found(), 0);
        x.add(7);
        Checks.due("found() with an entry", x.found(), 0);
    }

    private static void targets() {
        Checks.of("a TARGET (int)");
        int[] targets = {0, 1, -1, -2, -3, -4, 255, 256, 65536, Integer.MIN_VALUE, Integer.MIN_VALUE + 1,
            Integer.MAX_VALUE - 1, Integer.MAX_VALUE};
        for (int target : targets) {
            ListedNames x = new ListedNames();
            Checks.due("add(" + target + ")", x.add(target), 1);
            Checks.due("find()", x.find(), target);
            Checks.due("replace(5)", x.replace(5), 1);
            Checks.due("replace(" + target + ")", x.replace(target), 1);
            Checks.due("find()", x.find(), target);
        }
    }

    private static void firstSerial() {
        Checks.of("Serials are given from 1 on");
        ListedNames x = new ListedNames();
        Checks.due("the first", x.add(5), 1);
        Checks.due("the second", Checks.enter(x, "B", 5), 2);
        Checks.due("the third, of a name before these", Checks.enter(x, "0", 5), 3);
    }

    private static void serialBehindRemovals() {
        Checks.of("that of a new entry is one more than the latest one that was given");
        ListedNames x = Scenes.with("A", "B", "C");
        Checks.due("remove() of the latest", x.remove(), 3);
        Checks.due("add() of its name", x.add(5), 4);
        Checks.due("remove()", x.remove(), 4);
        Checks.hand(x, "A");
        Checks.due("remove()", x.remove(), 1);
        Checks.hand(x, "B");
        Checks.due("remove(): none is left", x.remove(), 2);
        Checks.due("add() to none", x.add(5), 5);
        Checks.hand(x, "D");
        Checks.due("rename(5) gives none", x.rename(5), 5);
        Checks.due("replace(6) gives none", x.replace(6), 5);
        Checks.due("add()", Checks.enter(x, "E", 5), 6);
    }

    private static void serialBehindChangesThatDoNotHold() {
        Checks.of("(by a change that holds)");
        ListedNames x = Scenes.crowd(24, 0);
        Checks.due("add: NONE", x.add(5), ListedNames.NONE);
        Checks.due("add: FULL", Checks.enter(x, "Z", 5), ListedNames.FULL);
        Checks.hand(x, "A");
        Checks.due("remove()", x.remove(), 1);
        for (int n = 0; n <= 5; n++) {
            x.failAfter(n);
            Checks.due("add of 6 writes when " + n + " are left", Checks.enter(x, "Z", 5), ListedNames.CUT);
            Checks.due("start()", x.start(), true);
        }
        x.failAfter(6);
        Checks.due("add of 6 writes when 6 are left", x.add(5), 25);
        ListedNames y = Scenes.crowd(23, 1);
        Checks.due("add of 11 pages with 10 free", Checks.enter(y, "Abcdefz", 5), ListedNames.FULL);
        Checks.due("add()", Checks.enter(y, "Z", 5), 24);
    }

    /** No object can give a serial above 256: its last calls are the 511th and the 512th. */
    private static void latestSerials() {
        Checks.of("one more than the latest one, up to the 512th call");
        ListedNames x = new ListedNames();
        for (int given = 1; given <= 255; given++) {
            Checks.due("add()", x.add(given), given);
            Checks.due("remove()", x.remove(), given);
        }
        Checks.due("add(): the 511th call", x.add(256), 256);
        Checks.due("next(255): the 512th", x.next(255), 256);
    }

    private static void mostEntries() {
        Checks.of("At most 24 entries");
        ListedNames x = Scenes.crowd(23, 0);
        Checks.due("count()", x.count(), 23);
        Checks.due("add of a 24th", Checks.enter(x, "Y", 5), 24);
        Checks.due("count()", x.count(), 24);
        Checks.due("free(): enough for 5 pages", x.free(), 9);
        Checks.due("add of a 25th", Checks.enter(x, "Z", 5), ListedNames.FULL);
        Checks.due("count()", x.count(), 24);
    }
}
