/** The example of README.md, call by call, with the answers that it tells there. */
public final class ReadmeTest {
    private ReadmeTest() {
    }

    public static void main(String[] args) {
        Checks.of("README.md, How to use it");
        ListedNames names = new ListedNames();
        names.name(0x6261, 2);
        int serial = names.add(7);
        Checks.due("add(7)", serial, 1);
        names.name(0x6361, 2);
        Checks.due("rename(serial)", names.rename(serial), serial);
        Checks.due("find()", names.find(), 7);
        Checks.due("listed(0, 1)", names.listed(0, 1), 1);
        Checks.due("found()", names.found(), 0x6361);
        listing(names);
        names.failAfter(2);
        Checks.due("remove()", names.remove(), ListedNames.CUT);
        Checks.due("isOn()", names.isOn(), false);
        Checks.due("start()", names.start(), true);
        Checks.due("count()", names.count(), 1);
        Checks.due("writes()", names.writes(), 2);
        Checks.end();
    }

    private static void listing(ListedNames names) {
        StringBuilder told = new StringBuilder();
        for (int at = names.next(0); at != ListedNames.NONE; at = names.next(at)) {
            told.append(Long.toHexString(names.found())).append(' ');
        }
        Checks.due("the listing", told.toString(), "6361 ");
    }
}
