import java.io.IOException;
import java.lang.reflect.Method;
import java.lang.reflect.Modifier;
import java.nio.file.Files;
import java.nio.file.Path;
import java.util.ArrayList;
import java.util.Arrays;
import java.util.HashMap;
import java.util.List;
import java.util.Map;
import java.util.regex.Matcher;
import java.util.regex.Pattern;
import java.util.stream.Stream;

/** README.md as it now stands: its example's answers, the calls and the tests that it names. */
public final class ReadmeTests {
    private static final Pattern CALL =
        Pattern.compile("^(?:int (\\w+) = )?x\\.(\\w+)\\(([^)]*)\\);\\s*// (-?\\d+): .+$");

    private ReadmeTests() {
    }

    public static void main(String[] args) throws IOException, ReflectiveOperationException {
        String text = Files.readString(Path.of("README.md"));
        example(text);
        namesEachCall(text);
        namesEachFile(text, "src/test/java");
        namesEachFile(text, "src/test/support");
        namesNoOther(text);
        Check.end();
    }

    private static void example(String text) throws ReflectiveOperationException {
        Check.sentence("README.md: what each call of the example answers");
        int begin = text.indexOf("```java\n");
        int end = text.indexOf("\n```", begin + 1);
        Check.must("there is no example", begin >= 0 && end > begin);
        String[] lines = text.substring(begin, end).split("\n");
        Check.must("the example does not begin with an object",
            lines.length > 1 && lines[1].equals("PropertyTests x = new PropertyTests();"));
        PropertyTests x = new PropertyTests();
        Map<String, Integer> names = new HashMap<>();
        for (int i = 2; i < lines.length; i++) {
            if (!lines[i].isBlank()) {
                line(x, names, lines[i]);
            }
        }
    }

    private static void line(PropertyTests x, Map<String, Integer> names, String line)
            throws ReflectiveOperationException {
        Matcher call = CALL.matcher(line);
        if (!call.matches()) {
            Check.must("not a call with its answer: " + line, false);
            return;
        }
        int got = answer(x, names, call.group(2), call.group(3));
        Check.due(line, got, Integer.parseInt(call.group(4)));
        if (call.group(1) != null) {
            names.put(call.group(1), got);
        }
    }

    private static int answer(PropertyTests x, Map<String, Integer> names, String name, String told)
            throws ReflectiveOperationException {
        List<Object> numbers = new ArrayList<>();
        for (String one : told.split(", ")) {
            if (!one.isEmpty()) {
                numbers.add(names.containsKey(one) ? names.get(one) : Integer.valueOf(one));
            }
        }
        Class<?>[] types = new Class<?>[numbers.size()];
        Arrays.fill(types, int.class);
        return (Integer) PropertyTests.class.getMethod(name, types).invoke(x, numbers.toArray());
    }

    private static void namesEachCall(String text) {
        Check.sentence("README.md: how the class is used");
        for (Method method : PropertyTests.class.getDeclaredMethods()) {
            if (Modifier.isPublic(method.getModifiers())) {
                Check.must("no line on " + method.getName(), text.contains("\n| `" + method.getName() + "("));
                Check.must("no example of " + method.getName(), text.contains("x." + method.getName() + "("));
            }
        }
    }

    private static void namesEachFile(String text, String place) throws IOException {
        Check.sentence("README.md: how its tests are run, as they now stand");
        Check.must("does not name " + place, text.contains("`" + place + "`"));
        try (Stream<Path> files = Files.list(Path.of(place))) {
            for (Path file : files.toList()) {
                String name = file.getFileName().toString().replace(".java", "");
                Check.must("does not name " + name, text.contains("`" + name + "`"));
            }
        }
    }

    private static void namesNoOther(String text) {
        Matcher name = Pattern.compile("`(\\w+Tests)`").matcher(text);
        while (name.find()) {
            Check.must("names " + name.group(1) + ", which is not there",
                Files.exists(Path.of("src/test/java", name.group(1) + ".java")));
        }
        Check.must("does not name .ci/run", text.contains(".ci/run") && Files.isExecutable(Path.of(".ci/run")));
    }
}
