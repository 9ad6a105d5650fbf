import java.io.IOException;
import java.lang.reflect.Method;
import java.lang.reflect.Modifier;
import java.nio.file.DirectoryStream;
import java.nio.file.Files;
import java.nio.file.Path;
import java.util.ArrayList;
import java.util.List;
import java.util.TreeMap;
import java.util.TreeSet;
import java.util.regex.Matcher;
import java.util.regex.Pattern;

/** The calls that README.md shows answer as it says; it shows all of the face, and names every test. */
public final class ReadmeTest {
    private static final Pattern NEW_LINE =
            Pattern.compile("SortLineEvents line = new SortLineEvents\\((-?\\d+)L\\);");
    private static final Pattern CALL =
            Pattern.compile("line\\.(\\w+)\\(([^()]*)\\); *// ([-\\w.]+)(?:: .*)?");
    private static final Due due = new Due();

    public static void main(String[] args) throws IOException, ReflectiveOperationException {
        String readme = Files.readString(Path.of("README.md"));
        callsAnswerAsShown(shownJava(readme));
        testsAreNamed(readme);
        due.end();
    }

    private static List<String> shownJava(String readme) {
        List<String> shown = new ArrayList<>();
        boolean inJava = false;
        for (String row : readme.split("\n")) {
            if (row.startsWith("```")) {
                inJava = row.equals("```java");
            } else if (inJava && !row.isBlank()) {
                shown.add(row);
            }
        }
        return shown;
    }

    private static void callsAnswerAsShown(List<String> shown) throws ReflectiveOperationException {
        SortLineEvents line = null;
        TreeSet<String> called = new TreeSet<>();
        for (String row : shown) {
            Matcher made = NEW_LINE.matcher(row);
            Matcher call = CALL.matcher(row);
            if (made.matches()) {
                line = new SortLineEvents(Long.parseLong(made.group(1)));
            } else if (call.matches() && line != null) {
                called.add(call.group(1));
                due.is("README: " + row, answer(line, call.group(1), call.group(2)), call.group(3));
            } else {
                due.is("README: " + row, "no call of the face with its answer", "one");
            }
        }
        due.is("README: calls of the face", called.toString(), face().keySet().toString());
    }

    private static TreeMap<String, Method> face() {
        TreeMap<String, Method> face = new TreeMap<>();
        for (Method method : SortLineEvents.class.getDeclaredMethods()) {
            if (Modifier.isPublic(method.getModifiers())) {
                face.put(method.getName(), method);
            }
        }
        return face;
    }

    private static String answer(SortLineEvents line, String name, String given)
            throws ReflectiveOperationException {
        Method method = face().get(name);
        if (method == null) {
            return "no such method";
        }
        Class<?>[] types = method.getParameterTypes();
        String[] texts = given.isEmpty() ? new String[0] : given.split(", ");
        if (texts.length != types.length) {
            return "not so many arguments";
        }
        Object[] values = new Object[types.length];
        for (int i = 0; i < types.length; i++) {
            values[i] = valueOf(types[i], texts[i]);
        }
        return String.valueOf(method.invoke(line, values));
    }

    private static Object valueOf(Class<?> type, String text) {
        if (type == int.class) {
            return Integer.valueOf(text);
        }
        return type == long.class ? (Object) Long.valueOf(text) : (Object) Double.valueOf(text);
    }

    private static void testsAreNamed(String readme) throws IOException {
        try (DirectoryStream<Path> tests = Files.newDirectoryStream(Path.of("src/test/java"), "*Test.java")) {
            for (Path test : tests) {
                String name = test.getFileName().toString().replace(".java", "");
                due.is("README names " + name, readme.contains("- `" + name + "`: "), true);
            }
        }
    }
}
