import java.lang.reflect.InvocationTargetException;
import java.lang.reflect.Method;
import java.lang.reflect.Modifier;
import java.util.ArrayList;
import java.util.Arrays;
import java.util.Comparator;
import java.util.List;
import java.util.Random;

/** Far beyond the 512th call the answers are free, but LANGUAGE.md (7) still wants every call to end without a throw. */
public final class EndlessTest {
    private static final int CALLS = 300_000;
    private static final int[] ODD = {Integer.MIN_VALUE, -1000, -1, 0, 1, 2, 3, 5, 6, 8, 9, 10, 11, 31, 32, 99, 100, 255, 256, 999, 1000,
        Integer.MAX_VALUE - 1, Integer.MAX_VALUE};
    private static final String[] TEXTS = {"casting", "section 9 9;section 40 20;joint 0 1;riser 1 50 15;chill 0 9", "section 1 99",
        "rule 99 1 100", "joint 0 1;joint 2 1;joint 3 2", "riser 0 99 1", "rule 1 99 0;casting;rule 1 1 50"};

    public static void main(String[] args) throws IllegalAccessException {
        List<Method> calls = calls();
        Random random = new Random(512);
        FeedCheck x = new FeedCheck();
        for (int i = 0; i < CALLS; i++) {
            if (random.nextInt(40) == 0) {
                tell(x, TEXTS[random.nextInt(TEXTS.length)]);
            }
            Method call = calls.get(random.nextInt(calls.size()));
            ask(x, call, arguments(random, call), i);
        }
        System.out.println("no call threw");
    }

    /** The order in which the machine tells methods is not promised: sorted, so that every run is the same. */
    private static List<Method> calls() {
        List<Method> calls = new ArrayList<>();
        for (Method m : FeedCheck.class.getDeclaredMethods()) {
            if (Modifier.isPublic(m.getModifiers())) {
                calls.add(m);
            }
        }
        calls.sort(Comparator.comparing(Method::getName));
        return calls;
    }

    private static void tell(FeedCheck x, String text) {
        x.erase();
        for (char letter : text.toCharArray()) {
            x.write(letter);
        }
        x.casting();
    }

    private static Object[] arguments(Random random, Method call) {
        Object[] arguments = new Object[call.getParameterCount()];
        for (int i = 0; i < arguments.length; i++) {
            arguments[i] = random.nextBoolean() ? random.nextInt(5) : ODD[random.nextInt(ODD.length)];
        }
        return arguments;
    }

    private static void ask(FeedCheck x, Method call, Object[] arguments, int i) throws IllegalAccessException {
        try {
            call.invoke(x, arguments);
        } catch (InvocationTargetException thrown) {
            System.out.println("call " + i + ", " + call.getName() + Arrays.toString(arguments) + " threw " + thrown.getCause());
            System.exit(1);
        }
    }
}
