import java.lang.reflect.InvocationTargetException;
import java.lang.reflect.Method;
import java.util.HashMap;
import java.util.Map;

/** All promises: long runs of mixed calls, each answered by ListedNames as by PlainNames. */
public final class ModelTest {
    private static final int RUNS = 1500;
    private static final int CALLS = 512;
    private static final int[] ODD_NUMBERS = {-3, -2, -1, 0, 1, 24, 256, Integer.MIN_VALUE, Integer.MAX_VALUE};
    private static final String[] QUESTIONS = {
        "find", "serial", "rank", "found", "count", "free", "writes", "isOn"};

    private final Map<String, Method> methods = new HashMap<>();
    private final Map<String, Integer> answers = new HashMap<>();
    private long state;
    private int alphabet;
    private int longest;
    private int failing;
    private int removing;

    private ModelTest() {
    }

    public static void main(String[] args) throws ReflectiveOperationException {
        new ModelTest().runAll();
        Checks.end();
    }

    private void runAll() throws ReflectiveOperationException {
        gather(ListedNames.class);
        gather(PlainNames.class);
        for (int run = 1; run <= RUNS; run++) {
            state = run * 7919L;
            alphabet = 1 + below(run % 3 == 0 ? 40 : 4);
            longest = 1 + below(7);
            failing = below(4) == 0 ? 0 : 1 + below(6);
            removing = below(10);
            runOnce(run);
        }
        String[] reached = {"add -1", "add -2", "add -3", "remove -1", "remove -2", "remove -3", "replace -1",
            "replace -2", "replace -3", "rename -1", "rename -2", "rename -3"};
        for (String kind : reached) {
            Checks.due("runs reach '" + kind + "'", answers.containsKey(kind), true);
        }
    }

    private void runOnce(int run) throws ReflectiveOperationException {
        ListedNames names = new ListedNames();
        PlainNames plain = new PlainNames();
        for (int i = 1; i <= CALLS; i++) {
            Object[] call = drawn();
            String got = answer(names, call);
            String want = answer(plain, call);
            answers.merge(call[0] + " " + want, 1, Integer::sum);
            if (!got.equals(want)) {
                Checks.tell("run " + run + ", call " + i + ", " + java.util.Arrays.toString(call), got, want);
                return;
            }
        }
    }

    private void gather(Class<?> type) {
        for (Method method : type.getDeclaredMethods()) {
            methods.put(type.getName() + "." + method.getName(), method);
        }
    }

    private String answer(Object object, Object[] call) throws ReflectiveOperationException {
        Method method = methods.get(object.getClass().getName() + "." + call[0]);
        try {
            return String.valueOf(method.invoke(object, java.util.Arrays.copyOfRange(call, 1, call.length)));
        } catch (InvocationTargetException e) {
            return "throws " + e.getCause().getClass().getName();
        }
    }

    private Object[] drawn() {
        int kind = below(100);
        if (kind < 35) {
            return drawnName();
        }
        if (kind < 60) {
            return new Object[] {"add", below(1000) - 500};
        }
        if (kind < 60 + removing) {
            return new Object[] {"remove"};
        }
        if (kind < 73) {
            return new Object[] {"replace", below(1000)};
        }
        if (kind < 80) {
            return new Object[] {"rename", below(20) == 0 ? odd() : 1 + below(40)};
        }
        if (kind < 84) {
            return new Object[] {"next", below(10) == 0 ? odd() : below(40)};
        }
        if (kind < 88) {
            int k = below(10) == 0 ? odd() : below(10);
            return new Object[] {"listed", k, below(20) == 0 ? odd() : below(longest + 1)};
        }
        if (kind < 88 + failing) {
            int n = below(10) == 0 ? odd() : below(25);
            return below(2) == 0 ? new Object[] {"failAfter", n} : new Object[] {"start"};
        }
        return new Object[] {QUESTIONS[below(QUESTIONS.length)]};
    }

    private Object[] drawnName() {
        long word = 0;
        for (int i = 0; i < 8; i++) {
            int value = below(300) == 0 ? 47 * below(2) : 255 - 5 * below(alphabet);
            word |= (long) value << (8 * i);
        }
        return new Object[] {"name", word, below(60) == 0 ? odd() : 1 + below(longest)};
    }

    private int odd() {
        return ODD_NUMBERS[below(ODD_NUMBERS.length)];
    }

    /** Always the same numbers, from 0 on below the bound. */
    private int below(int bound) {
        state = state * 6364136223846793005L + 1442695040888963407L;
        return (int) ((state >>> 33) % bound);
    }
}
