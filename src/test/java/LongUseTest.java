import java.util.NoSuchElementException;

/**
 * Rules 6 and 7 of LANGUAGE.md: a call throws what the document says and nothing else, whatever its
 * arguments, also behind the 512th call, where what it answers is free.
 */
public final class LongUseTest {
    private static final int[] NUMBERS = {
        Integer.MIN_VALUE, Integer.MIN_VALUE + 1, -257, -256, -3, -2, -1, 0, 1, 2, 6, 7, 8, 9, 23, 24, 25, 47, 60,
        63, 64, 255, 256, 511, 512, 65_535, 65_536, Integer.MAX_VALUE - 1, Integer.MAX_VALUE};
    private static final long[] WORDS = {
        0, 1, 47, 65, 255, 256, 0x4141, 0x2f41, 0x41414141414141L, 0xffffffffffffffL, Long.MIN_VALUE,
        Long.MAX_VALUE, -1};

    private LongUseTest() {
    }

    public static void main(String[] args) {
        oddArguments(new ListedNames(), "of a new object");
        oddArguments(Scenes.crowd(24, 1), "with 24 entries");
        oddArguments(Scenes.off("A"), "with power off at first");
        serialsOfMoreThanTwoBytes();
        Checks.end();
    }

    /** Serials grow beyond 65,536 and 131,072, where they no longer fit into a row of two bytes. */
    private static void serialsOfMoreThanTwoBytes() {
        Checks.of("No call may ever throw by itself");
        ListedNames x = new ListedNames();
        for (int i = 0; i < 140_000; i++) {
            try {
                x.name(65 + i % 23, 1);
                x.add(i);
                x.name(65 + (i + 12) % 23, 1);
                x.remove();
            } catch (RuntimeException e) {
                Checks.tell("the changes of round " + i, e.toString(), "no exception");
                return;
            }
            if (i % 10_000 == 0 || i == 65_536 || i == 131_072) {
                oddArguments(x, "in round " + i);
                x.start();
                x.failAfter(ListedNames.NONE);
            }
        }
    }

    private static void oddArguments(ListedNames x, String where) {
        Checks.of("A call of the face throws what the document says, and nothing else");
        for (int n : NUMBERS) {
            for (long w : WORDS) {
                mayBeWrong("name(" + w + ", " + n + ") " + where, () -> x.name(w, n));
            }
            for (int k : NUMBERS) {
                mayBeOffOrWrong("listed(" + k + ", " + n + ") " + where, () -> x.listed(k, n));
            }
            mayBeOff("next(" + n + ") " + where, () -> x.next(n));
            mayBeOff("add(" + n + ") " + where, () -> x.add(n));
            mayBeOff("replace(" + n + ") " + where, () -> x.replace(n));
            mayBeOffOrMissing("rename(" + n + ") " + where, () -> x.rename(n));
            mayBeWrong("failAfter(" + n + ") " + where, () -> x.failAfter(n));
            questions(x, where);
            mayBeOff("remove() " + where, x::remove);
            never("start() " + where, x::start);
        }
    }

    private static void questions(ListedNames x, String where) {
        mayBeOffOrMissing("find() " + where, x::find);
        mayBeOff("serial() " + where, x::serial);
        mayBeOff("rank() " + where, x::rank);
        mayBeOff("found() " + where, x::found);
        mayBeOff("count() " + where, x::count);
        mayBeOff("free() " + where, x::free);
        never("writes() " + where, x::writes);
        never("isOn() " + where, x::isOn);
    }

    private static void never(String call, Runnable run) {
        mayThrow(call, null, null, run);
    }

    private static void mayBeOff(String call, Runnable run) {
        mayThrow(call, IllegalStateException.class, null, run);
    }

    private static void mayBeOffOrMissing(String call, Runnable run) {
        mayThrow(call, IllegalStateException.class, NoSuchElementException.class, run);
    }

    private static void mayBeOffOrWrong(String call, Runnable run) {
        mayThrow(call, IllegalStateException.class, IllegalArgumentException.class, run);
    }

    private static void mayBeWrong(String call, Runnable run) {
        mayThrow(call, IllegalArgumentException.class, null, run);
    }

    private static void mayThrow(String call, Class<?> one, Class<?> other, Runnable run) {
        try {
            run.run();
        } catch (RuntimeException e) {
            if (e.getClass() != one && e.getClass() != other) {
                Checks.tell(call, e.toString(), "an answer, or what the document says");
            }
        }
    }
}
