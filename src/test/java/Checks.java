import java.nio.charset.StandardCharsets;

/** What the tests share: names written as texts, answers compared, and the end with its exit code. */
final class Checks {
    private static int wrong = 0;

    private Checks() {
    }

    static long word(String name) {
        byte[] bytes = name.getBytes(StandardCharsets.ISO_8859_1);
        long word = 0;
        for (int i = 0; i < bytes.length; i++) {
            word |= (bytes[i] & 255L) << (8 * i);
        }
        return word;
    }

    static void hand(ListedNames names, String name) {
        names.name(word(name), name.length());
    }

    static int enter(ListedNames names, String name, int target) {
        hand(names, name);
        return names.add(target);
    }

    static void due(String call, long got, long want) {
        if (got != want) {
            tell(call, String.valueOf(got), String.valueOf(want));
        }
    }

    static void due(String call, boolean got, boolean want) {
        if (got != want) {
            tell(call, String.valueOf(got), String.valueOf(want));
        }
    }

    static void dueThrow(String call, Class<? extends RuntimeException> want, Runnable run) {
        String got = "no exception";
        try {
            run.run();
        } catch (RuntimeException e) {
            if (e.getClass() == want) {
                return;
            }
            got = e.getClass().getName();
        }
        tell(call, got, want.getName());
    }

    static void tell(String call, String got, String want) {
        wrong++;
        System.out.println(call + " answered " + got + ", due is " + want);
    }

    static void end() {
        System.out.println(wrong == 0 ? "all answers are as due" : wrong + " answers are not as due");
        if (wrong != 0) {
            System.exit(1);
        }
    }

    /** 24 entries: the seven beginnings of "abcdefg", pairs with a common first byte, single bytes. */
    static ListedNames crowded(int pairs) {
        ListedNames names = new ListedNames();
        for (int i = 1; i <= 7; i++) {
            due("add in a crowd", enter(names, "abcdefg".substring(0, i), i), i);
        }
        for (int i = 0; i < 2 * pairs; i++) {
            String name = "" + (char) ('q' + i / 2) + (char) ('A' + i % 2);
            due("add in a crowd", enter(names, name, 8 + i), 8 + i);
        }
        for (int i = 8 + 2 * pairs; i <= 24; i++) {
            due("add in a crowd", enter(names, String.valueOf((char) (200 + i)), i), i);
        }
        return names;
    }
}
