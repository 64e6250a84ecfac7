import java.lang.reflect.InvocationTargetException;
import java.lang.reflect.Method;
import java.util.ArrayList;
import java.util.HashMap;
import java.util.List;
import java.util.Map;

/**
 * Every call with numbers in, beside and far out of their bounds, in a few states: each answer is
 * PlainBridge's, no call throws, and none is refused by what the document does not list for it.
 */
public final class ArgumentsTest {
    private static final int[] NUMBERS = {Integer.MIN_VALUE, -1, 0, 1, 2, 3, 4, 5, 7, 8, 10, 60, 200, 201,
        Integer.MAX_VALUE};

    /** Each call with the refusals that are listed for it. */
    private static final String[] CALLS = {"tick -1 -10", "follow -1 -2 -3 -4", "renew -1 -3", "client -1 -2",
        "follows -1 -2", "init -1 -2 -10", "meet -1 -2 -3 -4 -5 -6 -9", "agree -1 -3 -4 -5 -6",
        "confirm -1 -3 -4 -5 -6", "close -1 -3", "shut -1 -3 -4 -5 -6", "receive -1 -3 -4 -5 -6 -7 -8",
        "acknowledge -1 -3 -4 -5 -6 -8", "timeout -1 -3 -4 -5 -6 -7", "end -1 -2", "stepAt -1 -2", "message -1 -2",
        "balance -1", "vouchers -1", "sum -1 -2", "count -2"};
    private static final String SEND = "send -1 -2 -3 -4 -7 -10";

    private static final String OPEN = "init 0 1 7, tick 0, follow 1 1 0, meet 0 3 1, tick 1, follow 0 1 0, agree 0 1,"
        + "tick 0, follow 1 2 0, confirm 0 2";
    private static final String SENT = OPEN + ", send 0 0 0 1 0 100 2, send 0 0 1 5 0 1 7, send 0 1 0 2 1 1000 4";
    private static final String UNDER_WAY = SENT + ", tick 0, follow 1 3 0, receive 0 3, receive 1 3, tick 1,"
        + "follow 0 2 0, receive 2 2, acknowledge 0 2, tick 1, follow 0 3 4, tick 0";
    private static final String FROZEN = UNDER_WAY + ", follow 0 3 5, follow 1 3 1";
    private static final String FULL = UNDER_WAY + ", send 0 0 2 2 0 10 4, close 0 1, init 1 0 1, init 0 0 4, init 1 1 2,"
        + "tick 1, follow 0 4 0, timeout 3 4, tick 0, follow 1 5 0, meet 2 4 5";
    private static final String[] STATES = {"", "init 1 0 5, tick 1, follow 0 1 0", OPEN, SENT, UNDER_WAY, FROZEN, FULL};

    private static final Map<String, Method> REAL = methodsOf(BridgeClients.class);
    private static final Map<String, Method> PLAIN = methodsOf(PlainBridge.class);

    private record Made(String name, int[] numbers) {
    }

    private final List<Made> play = new ArrayList<>();
    private final String state;

    private ArgumentsTest(String state) {
        this.state = state;
        for (String call : state.isEmpty() ? new String[0] : state.split(", *")) {
            String[] words = call.split(" ");
            play.add(new Made(words[0], numbersOf(words)));
        }
    }

    public static void main(String[] args) throws ReflectiveOperationException {
        for (String state : STATES) {
            new ArgumentsTest(state).all();
        }
        Checks.end();
    }

    private void all() throws ReflectiveOperationException {
        playedWithoutRefusal();
        for (String call : CALLS) {
            String[] words = call.split(" ");
            everyMix(words, new int[REAL.get(words[0]).getParameterCount()], 0);
        }
        everyPairOfSend(new int[] {0, 0, 0, 1, 0, 1, 60});
        everyPairOfSend(new int[] {0, 1, 2, 4, 1, 5, 200});
    }

    private static int[] numbersOf(String[] words) {
        int[] numbers = new int[words.length - 1];
        for (int i = 0; i < numbers.length; i++) {
            numbers[i] = Integer.parseInt(words[i + 1]);
        }
        return numbers;
    }

    private void everyMix(String[] words, int[] numbers, int place) throws ReflectiveOperationException {
        if (place == numbers.length) {
            look(words, numbers);
            return;
        }
        for (int number : NUMBERS) {
            numbers[place] = number;
            everyMix(words, numbers, place + 1);
        }
    }

    /** Seven numbers have too many mixes: two of them are changed at once. */
    private void everyPairOfSend(int[] usual) throws ReflectiveOperationException {
        for (int one = 0; one < usual.length; one++) {
            for (int two = 0; two < one; two++) {
                for (int i = 0; i < NUMBERS.length * NUMBERS.length; i++) {
                    int[] numbers = usual.clone();
                    numbers[one] = NUMBERS[i / NUMBERS.length];
                    numbers[two] = NUMBERS[i % NUMBERS.length];
                    look(SEND.split(" "), numbers);
                }
            }
        }
    }

    // ---- one call

    private void playedWithoutRefusal() throws ReflectiveOperationException {
        BridgeClients x = new BridgeClients();
        for (Made made : play) {
            Checks.due("'" + state + "', " + textOf(made) + ": refused", Math.min(answer(REAL, x, made), 0), 0);
        }
    }

    private void look(String[] words, int[] numbers) throws ReflectiveOperationException {
        BridgeClients x = new BridgeClients();
        PlainBridge plain = new PlainBridge();
        for (Made made : play) {
            answer(REAL, x, made);
            answer(PLAIN, plain, made);
        }
        Made made = new Made(words[0], numbers);
        int got = answer(REAL, x, made);
        int due = answer(PLAIN, plain, made);
        String text = "'" + state + "', " + textOf(made);
        Checks.due(text, got, due);
        Checks.quiet(text + " is refused by what is not listed", got < 0 && !isListed(words, got) ? got : 0, 0);
    }

    private static boolean isListed(String[] words, int refusal) {
        for (int i = 1; i < words.length; i++) {
            if (Integer.parseInt(words[i]) == refusal) {
                return true;
            }
        }
        return false;
    }

    private static String textOf(Made made) {
        StringBuilder text = new StringBuilder(made.name);
        for (int number : made.numbers) {
            text.append(' ').append(number);
        }
        return text.toString();
    }

    private static Map<String, Method> methodsOf(Class<?> type) {
        Map<String, Method> all = new HashMap<>();
        for (Method method : type.getDeclaredMethods()) {
            all.put(method.getName(), method);
        }
        return all;
    }

    private static int answer(Map<String, Method> methods, Object object, Made made)
        throws ReflectiveOperationException {
        Object[] given = new Object[made.numbers.length];
        for (int i = 0; i < given.length; i++) {
            boolean isFlag = made.name.equals("init") && i == 1;
            given[i] = isFlag ? (Object) (made.numbers[i] == 1) : (Object) made.numbers[i];
        }
        try {
            return (Integer) methods.get(made.name).invoke(object, given);
        } catch (InvocationTargetException thrown) {
            System.out.println(textOf(made) + " threw " + thrown.getCause());
            return Integer.MIN_VALUE;
        }
    }
}
