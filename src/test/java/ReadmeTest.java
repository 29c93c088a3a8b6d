import java.lang.reflect.Method;
import java.nio.file.Files;
import java.nio.file.Path;
import java.util.Arrays;
import java.util.TreeSet;
import java.util.regex.Matcher;
import java.util.regex.Pattern;

/** README.md tells what the class does: its example gives the answers that stand behind it, and no call is left out. */
public final class ReadmeTest extends Rig {
    private static final Pattern TEXT = Pattern.compile("String text = \"([^\"]*)\";");
    private static final Pattern CALL = Pattern.compile("(?m)^x\\.(\\w+)\\(([-\\d, ]*)\\); *// (-?\\w+)");

    public static void main(String[] args) throws Exception {
        promise = "README.md";
        String readme = Files.readString(Path.of("README.md"));
        example(readme);
        everyCall(readme);
        end("README.md");
    }

    private static void example(String readme) throws ReflectiveOperationException {
        Matcher text = TEXT.matcher(readme);
        if (!text.find()) {
            fail("no text in the example");
            return;
        }
        FeedCheck x = type(new FeedCheck(), text.group(1));
        Matcher call = CALL.matcher(readme);
        int calls = 0;
        while (call.find()) {
            calls++;
            due(call.group(), ask(x, call.group(1), call.group(2)), answer(call.group(3)));
        }
        due("lines of the example that were asked", calls, (int) readme.lines().filter(line -> line.startsWith("x.")).count());
    }

    private static int ask(FeedCheck x, String name, String list) throws ReflectiveOperationException {
        Object[] arguments = list.isBlank() ? new Object[0] : Arrays.stream(list.split(", *")).map(Integer::valueOf).toArray();
        Class<?>[] types = new Class<?>[arguments.length];
        Arrays.fill(types, int.class);
        Method call = FeedCheck.class.getMethod(name, types);
        return (Integer) call.invoke(x, arguments);
    }

    private static int answer(String word) throws ReflectiveOperationException {
        return word.matches("-?\\d+") ? Integer.parseInt(word) : FeedCheck.class.getField(word).getInt(null);
    }

    private static void everyCall(String readme) {
        TreeSet<String> missing = new TreeSet<>();
        for (Method m : FeedCheck.class.getMethods()) {
            if (m.getDeclaringClass() == FeedCheck.class && !readme.contains("`" + m.getName() + "`")) {
                missing.add(m.getName());
            }
        }
        due("calls that README.md does not name", missing.toString(), "[]");
    }
}
