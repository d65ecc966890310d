/** Terms: pages and places, what a change writes, and when it is refused. */
public final class TermsPagesTest {
    private TermsPagesTest() {
    }

    public static void main(String[] args) {
        setsWithoutRows();
        emptyRow();
        eachRow();
        longestCommonBeginnings();
        eachTwoOfThem();
        onePageForEachPlace();
        placesGoWithTheirRows();
        serialsAsRows();
        serial256AsRow();
        pagesOfAdd();
        pagesOfRemove();
        pagesOfReplace();
        pagesOfRename();
        pagesOfRenameInCommon();
        pagesOfSerials();
        onceMore();
        refusedByPagesFreeBefore();
        lastWriteNotCounted();
        Checks.end();
    }

    private static void dueFree(int want, String... names) {
        Checks.due("free() with " + String.join(" ", names), Scenes.with(names).free(), want);
    }

    private static void setsWithoutRows() {
        Checks.of("PAGES: there are 60; a set without rows has the empty row as its place");
        ListedNames x = new ListedNames();
        Checks.due("free()", x.free(), 58);
        x.add(5);
        Checks.due("remove()", x.remove(), 1);
        Checks.due("free(): again without rows", x.free(), 58);
    }

    private static void emptyRow() {
        Checks.of("the empty row");
        dueFree(56, "A");
        dueFree(56, "abcdefg");
        dueFree(53, "A", "B");
    }

    private static void eachRow() {
        Checks.of("each row of the set");
        dueFree(53, "a", "ab");
        dueFree(51, "a", "ab", "abc");
        dueFree(51, "abcdef", "abcdefg", "abcde");
        dueFree(49, "a", "b", "c", "d");
    }

    private static void longestCommonBeginnings() {
        Checks.of("the longest common beginning of each two of them");
        dueFree(53, "ax", "bx");
        dueFree(52, "ax", "ay");
        dueFree(52, "abx", "aby");
        dueFree(52, "abcdefx", "abcdefy");
        dueFree(52, "abcdefx", "abcdey");
        dueFree(52, "a\u00ff\u0001", "a\u00ff\u0002");
        dueFree(53, "abcdef", "abcdefg");
        dueFree(53, "a", "abcdefg");
    }

    private static void eachTwoOfThem() {
        Checks.of("of each two of them");
        dueFree(49, "abx", "aby", "az");
        dueFree(49, "az", "abx", "aby");
        dueFree(50, "abx", "aby", "z");
        dueFree(46, "abx", "aby", "acx", "acy");
        dueFree(47, "abx", "aby", "zcx", "zcy");
        dueFree(37, "abcdefg", "abcdefx", "abcdex", "abcdx", "abcx", "abx", "ax");
    }

    private static void onePageForEachPlace() {
        Checks.of("each place takes one page");
        dueFree(50, "ax", "ay", "az");
        dueFree(48, "ax", "ay", "az", "aw");
        dueFree(51, "a", "ax", "ay");
        dueFree(51, "ax", "ay", "a");
        dueFree(49, "abx", "aby", "ab", "a");
        dueFree(51, "x", "y", "z");
    }

    private static void placesGoWithTheirRows() {
        Checks.of("FREE are those of the 60 that neither takes");
        ListedNames x = Scenes.with("ab", "ax", "ay");
        Checks.due("free()", x.free(), 50);
        Checks.due("remove()", x.remove(), 3);
        Checks.due("free(): the common beginning stays", x.free(), 52);
        Checks.hand(x, "ax");
        Checks.due("remove()", x.remove(), 2);
        Checks.due("free(): it goes, and that of the serials", x.free(), 56);
        Checks.hand(x, "abcdefg");
        Checks.due("rename(1)", x.rename(1), 1);
        Checks.due("free(): a longer name takes no more", x.free(), 56);
        Checks.due("replace(5)", x.replace(5), 1);
        Checks.due("free()", x.free(), 56);
        Checks.due("remove()", x.remove(), 1);
        Checks.due("free()", x.free(), 58);
    }

    private static void serialsAsRows() {
        Checks.of("each serial as a row of two bytes (serial / 256, serial % 256)");
        ListedNames x = Scenes.with("A", "B");
        Checks.due("free(): of serials \"\", 0, 0 1, 0 2", x.free(), 53);
        Checks.due("remove()", x.remove(), 2);
        Checks.due("free(): of serials \"\", 0 1", x.free(), 56);
        Checks.due("add()", x.add(5), 3);
        Checks.due("free(): of serials \"\", 0, 0 1, 0 3", x.free(), 53);
    }

    /** The entries "A" (1) and "B" are there; the latter has the serial given, by 2 * given - 1 calls. */
    private static ListedNames given(int serial) {
        ListedNames x = Scenes.with("A", "B");
        for (int latest = 2; latest < serial; latest++) {
            x.remove();
            Checks.due("add()", x.add(5), latest + 1);
        }
        return x;
    }

    private static void serial256AsRow() {
        Checks.of("(serial / 256, serial % 256)");
        ListedNames x = given(255);
        Checks.due("free(): of serials \"\", 0, 0 1, 0 255", x.free(), 53);
        Checks.due("writes() of the 255th: of serials \"\", 0, 0 255", x.writes(), 6);
        Checks.due("free(): of serials \"\", 0 1, 1 0", given(256).free(), 54);
        Checks.due("writes() of the 256th: of serials \"\", 1 0", given(256).writes(), 5);
        Checks.due("remove() of the 256th", given(256).remove(), 256);
        roomForSerial256("Abcdefz: 8 pages, and \"\", 1 0, with 10 free", "Abcdefz", 1, 256);
        roomForSerial256("Abcdefz: 8 pages, and \"\", 1 0, with 9 free", "Abcdefz", 2, ListedNames.FULL);
    }

    /** The 511th call: one add more to a crowd of 22 and "Z", which has the serial 255. */
    private static void roomForSerial256(String what, String name, int pairs, int want) {
        ListedNames x = Scenes.with(Scenes.crowdNames(22, pairs));
        Checks.due("add()", Checks.enter(x, "Z", 5), 23);
        for (int latest = 23; latest < 255; latest++) {
            x.remove();
            Checks.due("add()", x.add(5), latest + 1);
        }
        Checks.due(what, Checks.enter(x, name, 5), want);
    }

    private static void dueAdd(int writes, String name, String... names) {
        ListedNames x = Scenes.with(names);
        Checks.due("add of " + name, Checks.enter(x, name, 5), names.length + 1);
        Checks.due("writes() of add of " + name + " to " + String.join(" ", names), x.writes(), writes);
    }

    private static void pagesOfAdd() {
        Checks.of("of the names those that are beginnings of the name that is added");
        dueAdd(5, "A");
        dueAdd(6, "A", "B");
        dueAdd(7, "AB", "A");
        dueAdd(7, "AC", "AB");
        dueAdd(6, "A", "ABC");
        dueAdd(6, "AB", "ABx", "ABy");
        dueAdd(7, "ABz", "ABx", "ABy");
        dueAdd(7, "abcdefy", "abcdefx");
        dueAdd(11, "Abcdefg", "A", "Ab", "Abc", "Abcd", "Abcdef");
        dueAdd(12, "Abcdefg", "A", "Ab", "Abc", "Abcd", "Abcde", "Abcdef");
    }

    private static void dueRemove(int writes, String name, String... names) {
        ListedNames x = Scenes.with(names);
        Checks.hand(x, name);
        int serial = x.serial();
        Checks.due("remove() of " + name, x.remove(), serial);
        Checks.due("writes() of remove() of " + name + " from " + String.join(" ", names), x.writes(), writes);
    }

    private static void pagesOfRemove() {
        Checks.of("as it is behind the change: beginnings of the name that is removed");
        dueRemove(3, "A", "A");
        dueRemove(3, "AC", "AB", "AC");
        dueRemove(5, "A", "A", "AB", "AC");
        dueRemove(4, "A", "A", "AB", "ABC");
        dueRemove(5, "AB", "A", "AB", "ABC");
        dueRemove(6, "ABC", "A", "AB", "ABC");
        dueRemove(5, "ABz", "ABx", "ABy", "ABz");
        dueRemove(4, "ABz", "ABx", "Cy", "ABz");
        dueRemove(10, "Abcdefg", "A", "Ab", "Abc", "Abcd", "Abcde", "Abcdef", "Abcdefg");
    }

    private static void dueReplace(int writes, int target, String name, String... names) {
        ListedNames x = Scenes.with(names);
        Checks.hand(x, name);
        int serial = x.serial();
        Checks.due("replace() of " + name, x.replace(target), serial);
        Checks.due("writes() of replace() of " + name + " in " + String.join(" ", names), x.writes(), writes);
    }

    private static void pagesOfReplace() {
        Checks.of("or whose target is changed");
        dueReplace(3, 5, "A", "A");
        dueReplace(3, 101, "A", "A");
        dueReplace(3, 5, "A", "A", "AB");
        dueReplace(4, 5, "AB", "A", "AB");
        dueReplace(4, 5, "AC", "AB", "AC");
        dueReplace(3, 5, "B", "A", "B", "C");
        dueReplace(4, 5, "abcdefg", "abcdefg", "abcdefh");
        dueReplace(9, 5, "Abcdefg", "A", "Ab", "Abc", "Abcd", "Abcde", "Abcdef", "Abcdefg");
    }

    private static void dueRename(int writes, int serial, String name, String... names) {
        ListedNames x = Scenes.with(names);
        Checks.hand(x, name);
        Checks.due("rename(" + serial + ") to " + name, x.rename(serial), serial);
        Checks.due("writes() of rename(" + serial + ") to " + name + " in " + String.join(" ", names),
                x.writes(), writes);
    }

    private static void pagesOfRename() {
        Checks.of("or, for a rename, of the old name or the new one");
        dueRename(5, 1, "B", "A");
        dueRename(6, 1, "C", "A", "B");
        dueRename(7, 3, "AD", "AB", "AC", "x");
        dueRename(6, 2, "y", "AB", "AC", "x");
        dueRename(7, 3, "y", "AB", "AC", "AD");
        dueRename(7, 1, "x", "A", "AB", "AC");
        dueRename(6, 1, "x", "A", "AB", "ABC");
        dueRename(8, 3, "xd", "ab", "ac", "ad", "xb", "xc");
        dueRename(18, 7, "xbcdefg", "A", "Ab", "Abc", "Abcd", "Abcde", "Abcdef", "Abcdefg",
                "x", "xb", "xbc", "xbcd", "xbcde", "xbcdef");
    }

    private static void pagesOfRenameInCommon() {
        Checks.of("one page for each place: one that is a beginning of both names is written once");
        dueRename(6, 1, "A", "AB", "AC", "AD");
        dueRename(7, 1, "ABC", "A", "AB", "x");
        dueRename(7, 1, "AE", "AB", "AC", "AD");
        dueRename(8, 1, "Abz", "Abx", "Aby", "Ab", "A");
        dueRename(7, 1, "aax", "aab", "aac", "aad", "bb");
        dueRename(12, 7, "Abcdefx", "A", "Ab", "Abc", "Abcd", "Abcde", "Abcdef", "Abcdefg");
    }

    private static void pagesOfSerials() {
        Checks.of("of the serials (for an entry that is added, removed or renamed) beginnings of its serial's row");
        ListedNames x = new ListedNames();
        x.add(5);
        Checks.due("writes() of the first add: \"\", A, of serials \"\", 0 1", x.writes(), 5);
        Checks.enter(x, "B", 5);
        Checks.due("writes() of the second add: \"\", B, of serials \"\", 0, 0 2", x.writes(), 6);
        x.replace(6);
        Checks.due("writes() of replace: \"\", B, none of serials", x.writes(), 3);
        Checks.hand(x, "C");
        x.rename(2);
        Checks.due("writes() of rename: \"\", C, of serials \"\", 0, 0 2", x.writes(), 6);
        Checks.enter(x, "D", 5);
        x.remove();
        Checks.due("writes() of remove with two left: \"\", of serials \"\", 0", x.writes(), 4);
        Checks.hand(x, "C");
        x.remove();
        Checks.due("writes() of remove with one left: \"\", of serials \"\"", x.writes(), 3);
        x.rename(1);
        Checks.due("writes() of rename of the only one: \"\", C, of serials \"\", 0 1", x.writes(), 5);
        x.remove();
        Checks.due("writes() of remove with none left: \"\", of serials \"\"", x.writes(), 3);
    }

    private static void onceMore() {
        Checks.of("and then it writes ONCE MORE, and holds");
        ListedNames x = new ListedNames();
        x.failAfter(4);
        Checks.due("add of 4 pages with 4 writes", x.add(5), ListedNames.CUT);
        x.start();
        Checks.due("count()", x.count(), 0);
        x.failAfter(5);
        Checks.due("add of 4 pages with 5 writes", x.add(5), 1);
        Checks.due("count()", x.count(), 1);
    }

    private static void refusedByPagesFreeBefore() {
        Checks.of("It is refused when there are more pages to write than are free before it");
        ListedNames added = Scenes.crowd(23, 0);
        Checks.due("add of 11 pages, 11 free, 9 behind", Checks.enter(added, "Abcdefz", 5), 24);
        Checks.due("free()", added.free(), 9);
        ListedNames removed = Scenes.crowd(24, 1);
        Checks.hand(removed, "Abcdefg");
        Checks.due("remove() of 9 pages, 8 free, 10 behind", removed.remove(), ListedNames.FULL);
        ListedNames less = Scenes.crowd(24, 1);
        Checks.hand(less, "Abcdz");
        Checks.due("rename(8) of 9 pages, 8 free, 9 behind", less.rename(8), ListedNames.FULL);
        ListedNames more = Scenes.crowd(24, 3);
        Checks.hand(more, "Abz");
        Checks.due("rename(24) of 7 pages, 6 free", more.rename(24), ListedNames.FULL);
        Checks.hand(more, "ZA");
        Checks.due("rename(24) of 5 pages, 6 free", more.rename(24), 24);
        Checks.hand(more, "ZB");
        Checks.due("rename(23) of 6 pages, 6 free, 5 behind", more.rename(23), 23);
        Checks.due("free()", more.free(), 5);
    }

    private static void lastWriteNotCounted() {
        Checks.of("that last write not counted");
        ListedNames x = Scenes.crowd(24, 1);
        Checks.hand(x, "Abcdefg");
        Checks.due("replace() of 8 pages with 8 free", x.replace(5), 7);
        Checks.due("writes(): one more than were free", x.writes(), 9);
    }
}
