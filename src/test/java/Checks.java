import java.nio.charset.StandardCharsets;
import java.util.NoSuchElementException;

/** What the tests share: names written as texts, answers compared, and the end with its exit code. */
final class Checks {
    private static String sentence = "";
    private static int wrong = 0;

    private Checks() {
    }

    /** The document's words that the next answers belong to; they are told with a wrong one. */
    static void of(String words) {
        sentence = words;
    }

    static long word(String name) {
        byte[] bytes = name.getBytes(StandardCharsets.ISO_8859_1);
        long word = 0;
        for (int i = 0; i < bytes.length; i++) {
            word |= (bytes[i] & 255L) << (8 * i);
        }
        return word;
    }

    static void hand(ListedNames names, String name) {
        names.name(word(name), name.length());
    }

    static int enter(ListedNames names, String name, int target) {
        hand(names, name);
        return names.add(target);
    }

    static void due(String call, long got, long want) {
        if (got != want) {
            tell(call, String.valueOf(got), String.valueOf(want));
        }
    }

    static void due(String call, boolean got, boolean want) {
        if (got != want) {
            tell(call, String.valueOf(got), String.valueOf(want));
        }
    }

    static void due(String call, String got, String want) {
        if (!got.equals(want)) {
            tell(call, got, want);
        }
    }

    static void dueThrow(String call, Class<? extends RuntimeException> want, Runnable run) {
        String got = "no exception";
        try {
            run.run();
        } catch (RuntimeException e) {
            if (e.getClass() == want) {
                return;
            }
            got = e.getClass().getName();
        }
        tell(call, got, want.getName());
    }

    static void dueWrong(String call, Runnable run) {
        dueThrow(call, IllegalArgumentException.class, run);
    }

    static void dueMissing(String call, Runnable run) {
        dueThrow(call, NoSuchElementException.class, run);
    }

    static void dueOff(String call, Runnable run) {
        dueThrow(call + " when power is off", IllegalStateException.class, run);
    }

    static void tell(String call, String got, String want) {
        wrong++;
        System.out.println("\"" + sentence + "\": " + call + " answered " + got + ", due is " + want);
    }

    static void end() {
        System.out.println(wrong == 0 ? "all answers are as due" : wrong + " answers are not as due");
        if (wrong != 0) {
            System.exit(1);
        }
    }
}
