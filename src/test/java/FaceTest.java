import java.lang.reflect.Constructor;
import java.lang.reflect.Field;
import java.lang.reflect.Method;
import java.lang.reflect.Modifier;
import java.nio.file.Files;
import java.nio.file.Path;
import java.util.Arrays;
import java.util.TreeSet;
import java.util.regex.Matcher;
import java.util.regex.Pattern;
import java.util.stream.Collectors;

/** The class shows the document's face and nothing else, and keeps those rules of LANGUAGE.md that its source shows. */
public final class FaceTest {
    private static final String[] METHODS = {"write(int)", "erase()", "fault()", "casting()", "section(int,int)", "top(int,int)",
        "riser(int,int)", "put(int,int,int)", "take(int)", "move(int,int,int)", "chill(int,int)", "undo()", "keep(int)", "back(int)",
        "order(int)", "pass(int,int)", "need(int,int)", "best(int,int)", "least(int)", "bin(int,int)", "addWhole(int,int)",
        "addPair(int,int,int)", "find(int,int)", "pop(int)", "sort(int)", "pour(int,int)", "sum(int)", "drop(int)", "count(int)"};
    private static final String[] CONSTANTS = {"NONE=-1", "UNKNOWN=-2", "OUTSIDE=-3", "NOT=-4", "FULL=-5", "NULL=-11", "KIND=-12",
        "EMPTY=-13", "ROOM=-14"};

    private static int wrong = 0;

    private static void due(String what, Object got, Object want) {
        if (!want.equals(got)) {
            wrong++;
            System.out.println(what + ": " + got + ", due is " + want);
        }
    }

    public static void main(String[] args) throws Exception {
        methods();
        constants();
        nested();
        source(Files.readString(Path.of("src/main/java/FeedCheck.java")));
        System.out.println(wrong == 0 ? "the face is the document's" : wrong + " faults of the face");
        if (wrong != 0) {
            System.exit(1);
        }
    }

    private static void methods() {
        TreeSet<String> shown = new TreeSet<>();
        TreeSet<String> hidden = new TreeSet<>();
        for (Method m : FeedCheck.class.getDeclaredMethods()) {
            if (Modifier.isPrivate(m.getModifiers())) {
                hidden.add(m.getName());
                continue;
            }
            due(m + " is public, answers int", Modifier.isPublic(m.getModifiers()) && m.getReturnType() == int.class, true);
            shown.add(m.getName() + Arrays.stream(m.getParameterTypes()).map(Class::getName).collect(Collectors.joining(",", "(", ")")));
        }
        due("methods", shown, new TreeSet<>(Arrays.asList(METHODS)));
        for (String m : METHODS) {
            due("a private " + m, hidden.contains(m.substring(0, m.indexOf('('))), false);
        }
        Constructor<?>[] made = FeedCheck.class.getDeclaredConstructors();
        due("constructors", made.length, 1);
        due("public, of nothing", Modifier.isPublic(made[0].getModifiers()) && made[0].getParameterCount() == 0, true);
        due("final and public", FeedCheck.class.getModifiers(), Modifier.PUBLIC | Modifier.FINAL);
    }

    private static void constants() throws IllegalAccessException {
        TreeSet<String> shown = new TreeSet<>();
        for (Field f : FeedCheck.class.getDeclaredFields()) {
            if (!Modifier.isPrivate(f.getModifiers())) {
                due(f + " is a constant", f.getModifiers(), Modifier.PUBLIC | Modifier.STATIC | Modifier.FINAL);
                shown.add(f.getName() + "=" + f.getInt(null));
            }
        }
        due("constants", shown, new TreeSet<>(Arrays.asList(CONSTANTS)));
    }

    private static void nested() {
        Class<?>[] inside = FeedCheck.class.getDeclaredClasses();
        due("at most twelve classes", inside.length + 1 <= 12, true);
        for (Class<?> c : inside) {
            due(c + " is static and not public", Modifier.isStatic(c.getModifiers()) && !Modifier.isPublic(c.getModifiers()), true);
            for (Method m : c.getDeclaredMethods()) {
                due(m + " bears no public name", Arrays.stream(METHODS).anyMatch(p -> p.startsWith(m.getName() + "(")), false);
            }
            long own = Arrays.stream(c.getDeclaredFields()).filter(f -> !Modifier.isStatic(f.getModifiers())).count();
            due(c + " has at most twenty fields", own <= 20, true);
            for (Field f : c.getDeclaredFields()) {
                due(f + ": static is final", !Modifier.isStatic(f.getModifiers()) || Modifier.isFinal(f.getModifiers()), true);
            }
        }
    }

    private static void source(String text) {
        String code = text.replaceAll("(?s)/\\*.*?\\*/", "").replaceAll("//[^\n]*", "");
        String[] never = {"throw", "try", "catch", "finally", "synchronized", "assert", "throws", "package", "System\\.out",
            "->", "::", "hashCode", "Exact", "Random", "Thread"};
        for (String word : never) {
            String edge = Character.isLetter(word.charAt(0)) ? "\\b" : "";
            due("'" + word + "' in the source", Pattern.compile(edge + word + edge).matcher(code).find(), false);
        }
        due("imports", Pattern.compile("(?m)^import (.*);").matcher(code).results().map(r -> r.group(1)).collect(Collectors.toList()).toString(),
            "[java.util.Arrays]");
        due("signs 0 to 127 alone", text.chars().allMatch(c -> c < 128), true);
        // All rows are made once: a call that made anything would fill the one room of a run.
        Matcher made = Pattern.compile("(?m)^ *(.*\\bnew\\b.*)$").matcher(code);
        while (made.find()) {
            String line = made.group(1);
            due("made in a field or constructor: " + line, line.startsWith("private final ") || line.matches("(kept\\[k\\]|bins\\[i\\]|past\\[i\\]) = new \\w+\\(\\);"), true);
        }
    }
}
