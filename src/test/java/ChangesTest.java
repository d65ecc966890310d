import java.util.NoSuchElementException;

/** Promises 3 (add), 4 (remove), 5 (replace), 6 (rename) and 15 (writes). */
public final class ChangesTest {
    private ChangesTest() {
    }

    public static void main(String[] args) {
        add();
        addToMostEntries();
        addWithoutRoom();
        remove();
        removeWithoutRoom();
        replace();
        replaceWithoutRoom();
        rename();
        renameWithoutRoom();
        renameSharesBeginnings();
        writes();
        serialOfTwoBytes();
        Checks.end();
    }

    private static void add() {
        ListedNames x = new ListedNames();
        Checks.due("add(7)", x.add(7), 1);
        Checks.due("add(8) of the same name", x.add(8), ListedNames.NONE);
        Checks.due("find(): unchanged by NONE", x.find(), 7);
        Checks.due("add of \"AB\"", Checks.enter(x, "AB", Integer.MIN_VALUE), 2);
        Checks.due("find()", x.find(), Integer.MIN_VALUE);
        Checks.due("count()", x.count(), 2);
        x.remove();
        Checks.due("add(): a serial is given once", x.add(9), 3);
        x.failAfter(3);
        Checks.due("add() when power fails", Checks.enter(x, "C", 1), ListedNames.CUT);
        x.start();
        Checks.due("count(): what is cut is not there", x.count(), 2);
        Checks.due("add(): a cut change gives no serial", x.add(1), 4);
    }

    private static void addToMostEntries() {
        ListedNames x = Checks.crowded(0);
        Checks.due("count()", x.count(), 24);
        Checks.due("free()", x.free(), 9);
        Checks.due("add of a 25th", Checks.enter(x, "Z", 1), ListedNames.FULL);
        Checks.due("serial(): it is not there", x.serial(), ListedNames.NONE);
        Checks.due("add of a name that is there, of 24", Checks.enter(x, "abc", 1), ListedNames.NONE);
        x.failAfter(0);
        Checks.due("add of a 25th comes to no write", Checks.enter(x, "Z", 1), ListedNames.FULL);
        Checks.due("add of a name that is there, before all else", Checks.enter(x, "abc", 1), ListedNames.NONE);
        Checks.due("isOn()", x.isOn(), true);
        x.failAfter(ListedNames.NONE);
        Checks.hand(x, "a");
        Checks.due("remove()", x.remove(), 1);
        Checks.due("add(): FULL gave no serial", Checks.enter(x, "Z", 1), 25);
    }

    private static ListedNames pairedUntilNoRoom() {
        ListedNames x = new ListedNames();
        for (int i = 0; i < 20; i++) {
            Checks.due("add of pairs", Checks.enter(x, "a" + (char) ('b' + i / 2) + (char) ('x' + i % 2), i), i + 1);
        }
        Checks.due("free(): 60 less 20 names, 10 pairs, \"\", \"a\", and of serials \"\", 0, 20 rows", x.free(), 6);
        return x;
    }

    private static void addWithoutRoom() {
        ListedNames x = pairedUntilNoRoom();
        Checks.due("add of 7 pages with 6 free", Checks.enter(x, "abz", 5), ListedNames.FULL);
        Checks.due("add of 6 pages with 6 free", Checks.enter(x, "alx", 5), 21);
        Checks.due("free()", x.free(), 4);
        int before = x.writes();
        Checks.due("writes()", before, 7);
        Checks.due("add of 5 pages with 4 free", Checks.enter(x, "Z", 5), ListedNames.FULL);
        Checks.due("free(): as before", x.free(), 4);
        Checks.due("count(): as before", x.count(), 21);
        Checks.due("writes(): as before", x.writes(), before);
        x.failAfter(0);
        Checks.due("add that is refused makes no write", x.add(5), ListedNames.FULL);
        Checks.due("isOn()", x.isOn(), true);
    }

    private static void remove() {
        ListedNames x = new ListedNames();
        Checks.due("remove() of nothing", x.remove(), ListedNames.NONE);
        Checks.enter(x, "A", 1);
        Checks.enter(x, "AB", 2);
        Checks.enter(x, "AC", 3);
        Checks.hand(x, "A");
        Checks.due("remove()", x.remove(), 1);
        Checks.due("writes(): \"\", \"A\", and of serials \"\", 0", x.writes(), 5);
        Checks.due("remove() again", x.remove(), ListedNames.NONE);
        Checks.dueThrow("find()", NoSuchElementException.class, x::find);
        Checks.due("count()", x.count(), 2);
        Checks.hand(x, "AC");
        Checks.due("find(): others stay", x.find(), 3);
        x.failAfter(2);
        Checks.due("remove() when power fails", x.remove(), ListedNames.CUT);
        Checks.due("writes()", x.writes(), 2);
        x.start();
        Checks.due("find(): still there", x.find(), 3);
        Checks.due("remove()", x.remove(), 3);
        Checks.due("writes(): \"\", and of serials \"\"", x.writes(), 3);
    }

    private static void removeWithoutRoom() {
        ListedNames roomy = Checks.crowded(0);
        Checks.hand(roomy, "abcdefg");
        Checks.due("remove() of 9 pages with 9 free", roomy.remove(), 7);
        Checks.due("writes()", roomy.writes(), 10);
        ListedNames x = Checks.crowded(1);
        Checks.due("free()", x.free(), 8);
        int before = x.writes();
        Checks.hand(x, "abcdefg");
        x.failAfter(0);
        Checks.due("remove() of 9 pages with 8 free", x.remove(), ListedNames.FULL);
        Checks.due("isOn()", x.isOn(), true);
        Checks.due("find(): still there", x.find(), 7);
        Checks.due("writes(): as before", x.writes(), before);
    }

    private static void replace() {
        ListedNames x = new ListedNames();
        Checks.due("replace(1) of nothing", x.replace(1), ListedNames.NONE);
        x.add(1);
        Checks.enter(x, "AB", 2);
        Checks.due("replace(9)", x.replace(9), 2);
        Checks.due("writes(): \"\", \"A\", \"AB\", none of serials", x.writes(), 4);
        Checks.due("find()", x.find(), 9);
        Checks.due("replace(9) by the same", x.replace(9), 2);
        Checks.due("writes()", x.writes(), 4);
        Checks.due("count()", x.count(), 2);
        x.failAfter(3);
        Checks.due("replace(5) when power fails", x.replace(5), ListedNames.CUT);
        Checks.due("writes()", x.writes(), 3);
        x.start();
        Checks.due("find(): as before", x.find(), 9);
        Checks.hand(x, "A");
        Checks.due("find(): the other one stays", x.find(), 1);
    }

    private static void replaceWithoutRoom() {
        ListedNames roomy = Checks.crowded(1);
        Checks.hand(roomy, "abcdefg");
        Checks.due("replace(50) of 8 pages with 8 free", roomy.replace(50), 7);
        Checks.due("writes()", roomy.writes(), 9);
        ListedNames x = Checks.crowded(2);
        Checks.due("free()", x.free(), 7);
        Checks.hand(x, "abcdefg");
        Checks.due("replace(50) of 8 pages with 7 free", x.replace(50), ListedNames.FULL);
        Checks.due("find(): as before", x.find(), 7);
        Checks.hand(x, "abcdef");
        Checks.due("replace(50) of 7 pages with 7 free", x.replace(50), 6);
    }

    private static void rename() {
        ListedNames x = new ListedNames();
        Checks.dueThrow("rename(1) of nothing", NoSuchElementException.class, () -> x.rename(1));
        x.add(4);
        Checks.due("rename(1) to its own name", x.rename(1), ListedNames.NONE);
        Checks.enter(x, "B", 5);
        Checks.due("rename(1) to another's name", x.rename(1), ListedNames.NONE);
        Checks.dueThrow("rename(3), the name is there", NoSuchElementException.class, () -> x.rename(3));
        Checks.hand(x, "C");
        int[] noSerials = {0, -1, 3, Integer.MIN_VALUE, Integer.MAX_VALUE};
        for (int serial : noSerials) {
            Checks.dueThrow("rename(" + serial + ")", NoSuchElementException.class, () -> x.rename(serial));
        }
        Checks.due("rename(1)", x.rename(1), 1);
        Checks.due("writes(): \"\", \"C\", and of serials \"\", 0, 0 1", x.writes(), 6);
        Checks.due("find(): the target stays", x.find(), 4);
        Checks.due("serial(): the serial stays", x.serial(), 1);
        Checks.due("next(0): the order of serials stays", x.next(0), 1);
        Checks.due("found()", x.found(), Checks.word("C"));
        Checks.due("listed(0, 0): the order of names changes", x.listed(0, 0), 2);
        Checks.due("listed(1, 0)", x.listed(1, 0), 1);
        Checks.hand(x, "A");
        Checks.due("serial(): the old name is gone", x.serial(), ListedNames.NONE);
        x.failAfter(5);
        Checks.due("rename(1) when power fails", x.rename(1), ListedNames.CUT);
        Checks.due("writes()", x.writes(), 5);
        x.start();
        Checks.due("serial(): not renamed", x.serial(), ListedNames.NONE);
        Checks.hand(x, "C");
        Checks.due("serial(): as before", x.serial(), 1);
    }

    private static void renameWithoutRoom() {
        ListedNames x = Checks.crowded(2);
        Checks.hand(x, "abcde9");
        int before = x.writes();
        x.failAfter(0);
        Checks.due("rename(7) of 11 pages with 7 free", x.rename(7), ListedNames.FULL);
        Checks.due("isOn()", x.isOn(), true);
        Checks.due("serial(): not renamed", x.serial(), ListedNames.NONE);
        Checks.due("writes(): as before", x.writes(), before);
        x.failAfter(ListedNames.NONE);
        Checks.hand(x, "abc9");
        Checks.due("rename(8) of 8 pages with 7 free", x.rename(8), ListedNames.FULL);
        Checks.hand(x, "ab9");
        Checks.due("rename(8) of 7 pages with 7 free", x.rename(8), 8);
        Checks.due("writes()", x.writes(), 8);
    }

    private static void renameSharesBeginnings() {
        ListedNames x = new ListedNames();
        Checks.enter(x, "aab", 1);
        Checks.enter(x, "aac", 2);
        Checks.enter(x, "aad", 3);
        Checks.enter(x, "bb", 4);
        Checks.enter(x, "bc", 5);
        Checks.hand(x, "aax");
        Checks.due("rename(1)", x.rename(1), 1);
        Checks.due("writes(): \"\", \"aa\", \"aax\", and 3 of serials", x.writes(), 7);
        Checks.hand(x, "bd");
        Checks.due("rename(1)", x.rename(1), 1);
        Checks.due("writes(): \"\", \"aa\", \"b\", \"bd\", and 3 of serials", x.writes(), 8);
        Checks.hand(x, "b");
        Checks.due("rename(1)", x.rename(1), 1);
        Checks.due("writes(): \"\", \"b\", and 3 of serials", x.writes(), 6);
        Checks.hand(x, "bde");
        Checks.due("rename(1)", x.rename(1), 1);
        Checks.due("writes(): \"\", \"b\", \"bde\", and 3 of serials", x.writes(), 7);
    }

    private static void writes() {
        ListedNames x = new ListedNames();
        x.remove();
        Checks.due("writes(): NONE is no change", x.writes(), 0);
        x.add(1);
        Checks.due("writes()", x.writes(), 5);
        x.add(1);
        x.find();
        x.next(0);
        Checks.due("writes(): NONE and questions leave it", x.writes(), 5);
        x.failAfter(0);
        Checks.due("remove() when power fails at once", x.remove(), ListedNames.CUT);
        Checks.due("writes(): none was made, power off", x.writes(), 0);
        x.start();
        Checks.due("writes(): start() leaves it", x.writes(), 0);
        Checks.due("remove()", x.remove(), 1);
        Checks.due("writes()", x.writes(), 3);
    }

    /** The 256th serial, whose row is 1, 0, with the object's last calls. */
    private static void serialOfTwoBytes() {
        due256("writes(): \"\", \"A\", \"ACD\", and of serials \"\", 1 0", true, 6);
        due256("free(): 60 less \"\", three names, and of serials \"\", 0, three rows", false, 51);
    }

    private static void due256(String call, boolean writes, int want) {
        ListedNames x = new ListedNames();
        x.add(1);
        Checks.enter(x, "AB", 2);
        Checks.enter(x, "ACD", 3);
        for (int given = 3; given < 255; given++) {
            x.remove();
            Checks.due("add()", x.add(given), given + 1);
        }
        x.remove();
        Checks.due("add() of the 256th", x.add(0), 256);
        Checks.due(call, writes ? x.writes() : x.free(), want);
    }
}
