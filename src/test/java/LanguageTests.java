import java.io.IOException;
import java.lang.management.ManagementFactory;
import java.lang.reflect.Constructor;
import java.lang.reflect.Field;
import java.lang.reflect.Member;
import java.lang.reflect.Method;
import java.lang.reflect.Modifier;
import java.nio.file.Files;
import java.nio.file.Path;
import java.util.ArrayList;
import java.util.List;
import java.util.Map;
import java.util.Set;
import java.util.TreeMap;
import java.util.TreeSet;
import java.util.regex.Matcher;
import java.util.regex.Pattern;

/** The public face, and the rules of LANGUAGE.md that a program can look after. Run at the project's root. */
public final class LanguageTests {
    private static final String SOURCE = "src/main/java/PropertyTests.java";
    private static final int MOST_LINES = 60, MOST_CLASSES = 12, MOST_FIELDS = 20, MOST_PARAMETERS = 7;
    private static final int MOST_DEEP = 8;
    private static final Set<Class<?>> STATIC_TYPES = Set.of(int.class, long.class, boolean.class, char.class,
        String.class, int[].class, long[].class, char[].class, byte[].class);
    private static int wrong = 0;

    private static void must(boolean holds, String what) {
        if (!holds) {
            wrong++;
            System.out.println(what);
        }
    }

    public static void main(String[] args) throws IOException {
        List<Class<?>> classes = new ArrayList<>();
        classes.add(PropertyTests.class);
        classes.addAll(List.of(PropertyTests.class.getDeclaredClasses()));
        face();
        must(classes.size() <= MOST_CLASSES, "too many classes");
        for (Class<?> one : classes) {
            insides(one);
        }
        String text = withoutComments(Files.readString(Path.of(SOURCE)));
        words(text);
        Map<String, String> bodies = bodies(text);
        methodLengths(bodies);
        callDepth(bodies);
        room();
        System.out.println(wrong == 0 ? "the rules are kept" : wrong + " rules are broken");
        if (wrong != 0) {
            System.exit(1);
        }
    }

    private static void face() {
        Set<String> want = new TreeSet<>(Set.of("BAD", "FULL", "BAD_INPUT", "PropertyTests()",
            "term(IIIII)", "property(IIIIIII)", "run(III)", "small(II)", "many(II)", "again()", "counter(II)",
            "drawn(IIIII)", "told(I)", "label(I)"));
        Set<String> got = new TreeSet<>();
        Class<?> face = PropertyTests.class;
        must(face.getModifiers() == (Modifier.PUBLIC | Modifier.FINAL), "the class is not public and final alone");
        must(face.getSuperclass() == Object.class && face.getInterfaces().length == 0, "the class is of another");
        for (Field field : face.getDeclaredFields()) {
            if (!Modifier.isPrivate(field.getModifiers())) {
                got.add(field.getName());
                must(field.getModifiers() == (Modifier.PUBLIC | Modifier.STATIC | Modifier.FINAL)
                    && field.getType() == int.class, field + " is no public constant");
            }
        }
        for (Constructor<?> made : face.getDeclaredConstructors()) {
            must(made.getModifiers() == Modifier.PUBLIC, made + " is not public");
            got.add("PropertyTests" + parameters(made.getParameterTypes()));
        }
        for (Method method : face.getDeclaredMethods()) {
            if (!Modifier.isPrivate(method.getModifiers())) {
                got.add(method.getName() + parameters(method.getParameterTypes()));
                must(method.getModifiers() == Modifier.PUBLIC && method.getReturnType() == int.class,
                    method + " is not as the document has it");
            }
        }
        must(got.equals(want), "the face is " + got + ", due is " + want);
    }

    private static String parameters(Class<?>[] types) {
        StringBuilder text = new StringBuilder("(");
        for (Class<?> type : types) {
            text.append(type == int.class ? "I" : "?");
        }
        return text.append(")").toString();
    }

    private static void insides(Class<?> one) {
        boolean inside = one != PropertyTests.class;
        int modifiers = one.getModifiers();
        must(!inside || Modifier.isStatic(modifiers), one + " is not static");
        must(!inside || !Modifier.isPublic(modifiers) && !Modifier.isProtected(modifiers), one + " is seen outside");
        int fields = 0;
        for (Field field : one.getDeclaredFields()) {
            boolean fixed = Modifier.isStatic(field.getModifiers());
            fields += fixed ? 0 : 1;
            must(!fixed || Modifier.isFinal(field.getModifiers()), field + " is static and not final");
            must(!fixed || STATIC_TYPES.contains(field.getType()), field + " is static and of a type that is not allowed");
            must(!inside || hidden(field), field + " is seen outside");
        }
        must(fields <= MOST_FIELDS, one + " has too many fields");
        Set<String> publicNames = new TreeSet<>();
        for (Method method : PropertyTests.class.getMethods()) {
            publicNames.add(method.getName());
        }
        for (Method method : one.getDeclaredMethods()) {
            must(method.getParameterCount() <= MOST_PARAMETERS, method + " has too many parameters");
            must(!inside || hidden(method), method + " is seen outside");
            must(!Modifier.isPrivate(method.getModifiers()) || !publicNames.contains(method.getName()),
                method + " bears the name of a public one");
        }
    }

    private static boolean hidden(Member member) {
        return !Modifier.isPublic(member.getModifiers()) && !Modifier.isProtected(member.getModifiers());
    }

    private static String withoutComments(String text) {
        return text.replaceAll("(?s)/\\*.*?\\*/", "").replaceAll("//[^\n]*", "");
    }

    private static void words(String text) {
        for (String word : List.of("throw", "throws", "try", "catch", "finally", "synchronized", "assert", "package",
                "import", "volatile", "native", "var", "goto", "yield")) {
            must(!Pattern.compile("\\b" + word + "\\b").matcher(text).find(), "the word " + word);
        }
        for (String sign : List.of("->", "::", "@", "static {")) {
            must(!text.contains(sign), "the sign " + sign);
        }
        Matcher call = Pattern.compile("\\b([A-Z][a-z]\\w*)\\.([a-z]\\w*)\\(").matcher(text);
        Set<String> own = Set.of("Draw", "Small");
        Set<String> library = Set.of("System.arraycopy", "Math.floorMod");
        while (call.find()) {
            must(own.contains(call.group(1)) || library.contains(call.group(1) + "." + call.group(2)),
                "the library's " + call.group());
        }
    }

    /** The body of each method by its name; those of one name are one, which can only be longer and go deeper. */
    private static Map<String, String> bodies(String text) {
        Map<String, String> bodies = new TreeMap<>();
        Matcher head = Pattern.compile("(?m)^( +)(?:public|private)[^=;\\n]*?(\\w+)\\([^=;{]*\\)\\s*\\{$").matcher(text);
        while (head.find()) {
            int end = text.indexOf("\n" + head.group(1) + "}\n", head.end());
            must(end > 0, head.group(2) + " has no end");
            bodies.merge(head.group(2), text.substring(head.end(), Math.max(end, head.end())), String::concat);
        }
        for (Method method : PropertyTests.class.getDeclaredMethods()) {
            must(bodies.containsKey(method.getName()), method.getName() + " was not found in the source");
        }
        return bodies;
    }

    private static void methodLengths(Map<String, String> bodies) {
        for (String name : bodies.keySet()) {
            must(bodies.get(name).split("\n").length < MOST_LINES, name + " is too long");
        }
    }

    /** Rule 11. What calls itself, through others too, is open just once on a way down: no recursion counts. */
    private static void callDepth(Map<String, String> bodies) {
        Map<String, Set<String>> calls = new TreeMap<>();
        for (String name : bodies.keySet()) {
            Set<String> called = new TreeSet<>();
            Matcher call = Pattern.compile("\\b(\\w+)\\(").matcher(bodies.get(name));
            while (call.find()) {
                if (bodies.containsKey(call.group(1))) {
                    called.add(call.group(1));
                }
            }
            calls.put(name, called);
        }
        for (String name : bodies.keySet()) {
            int deep = deepest(calls, name, new TreeSet<>());
            must(deep <= MOST_DEEP, name + " goes " + deep + " calls deep");
        }
    }

    private static int deepest(Map<String, Set<String>> calls, String name, Set<String> open) {
        if (!open.add(name)) {
            return 0;
        }
        int most = 0;
        for (String called : calls.get(name)) {
            most = Math.max(most, deepest(calls, called, open));
        }
        open.remove(name);
        return 1 + most;
    }

    /** Nothing may be made by a call, but in the constructor: the room of a run has an end. */
    private static void room() {
        com.sun.management.ThreadMXBean threads =
            (com.sun.management.ThreadMXBean) ManagementFactory.getThreadMXBean();
        long self = Thread.currentThread().getId();
        dearCalls(new PropertyTests());
        PropertyTests x = new PropertyTests();
        long before = threads.getThreadAllocatedBytes(self);
        dearCalls(x);
        long made = threads.getThreadAllocatedBytes(self) - before;
        must(made < 100_000, "the calls on one object made " + made + " bytes");
    }

    private static void dearCalls(PropertyTests x) {
        x.term(0, 0, 0, 0, 0);
        x.term(16, 0, 0, 0, 0);
        x.term(14, 1, 1, 0, 0);
        for (int t = 3; t < 30; t++) {
            x.term(17, t - 1, 0, 0, 0);
        }
        x.term(11, 29, 0, 0, 0);
        x.term(1, 0, 0, 0, 9);
        x.term(8, 30, 31, 0, 0);
        x.property(1, 1, 1, -1, 32, 30, 0);
        for (int seed = 0; seed < 100; seed++) {
            x.run(0, 200, seed);
            x.small(0, 1);
            x.again();
            x.drawn(seed, 11, 0, 1, 3);
        }
    }
}
