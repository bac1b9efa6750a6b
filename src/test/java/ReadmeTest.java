import java.io.File;
import java.lang.reflect.Field;
import java.lang.reflect.Method;
import java.lang.reflect.Modifier;
import java.nio.file.Files;
import java.nio.file.Path;
import java.util.ArrayList;
import java.util.List;
import java.util.TreeSet;
import java.util.regex.Matcher;
import java.util.regex.Pattern;

/** Makes the calls that README.md shows, one behind the other, and holds their answers against what it says. */
public final class ReadmeTest {
    private static final Pattern NEW_OBJECT = Pattern.compile("CubeBodies x = new CubeBodies\\(\\);( +// .*)?");
    private static final Pattern CALL = Pattern.compile("x\\.(\\w+)\\(([^()]*)\\); +// (-?\\d+|[A-Z]+)(:.*)?");
    private static final int MOST_CALLS = 512;

    private static int wrong = 0;

    private static void due(String what, Object got, Object want) {
        if (!want.equals(got)) {
            wrong++;
            System.out.println("README.md: " + what + ": " + got + ", due is " + want);
        }
    }

    /** The lines between the fence that opens Java and the one that ends it. */
    private static List<String> exampleOf(List<String> page) {
        List<String> example = new ArrayList<>();
        boolean inside = false;
        for (String line : page) {
            if (line.startsWith("```")) inside = line.equals("```java");
            else if (inside) example.add(line);
        }
        return example;
    }

    private static TreeSet<String> face() {
        TreeSet<String> names = new TreeSet<>();
        for (Method method : CubeBodies.class.getDeclaredMethods()) {
            if (Modifier.isPublic(method.getModifiers())) names.add(method.getName());
        }
        return names;
    }

    private static Object numberOf(String word, Class<?> type) {
        long number = word.matches("'.'") ? word.charAt(1) : Long.parseLong(word);
        if (type == long.class) return number;
        return Math.toIntExact(number);
    }

    /** Answers named by a constant are that constant's number. */
    private static long answerOf(String word) throws ReflectiveOperationException {
        if (!Character.isUpperCase(word.charAt(0))) return Long.parseLong(word);
        Field constant = CubeBodies.class.getField(word);
        return ((Number) constant.get(null)).longValue();
    }

    private static long make(CubeBodies x, String name, String words) throws ReflectiveOperationException {
        String[] numbers = words.isEmpty() ? new String[0] : words.split(", ");
        for (Method method : CubeBodies.class.getDeclaredMethods()) {
            Class<?>[] types = method.getParameterTypes();
            boolean isIt = method.getName().equals(name) && Modifier.isPublic(method.getModifiers());
            if (!isIt || types.length != numbers.length) continue;
            Object[] given = new Object[numbers.length];
            for (int i = 0; i < given.length; i++) given[i] = numberOf(numbers[i], types[i]);
            return ((Number) method.invoke(x, given)).longValue();
        }
        throw new NoSuchMethodException(name + " of " + numbers.length);
    }

    private static void makeExample(List<String> example) throws ReflectiveOperationException {
        TreeSet<String> shown = new TreeSet<>();
        CubeBodies x = null;
        int calls = 0;
        for (String line : example) {
            if (line.isEmpty() || line.startsWith("// ")) continue;
            if (NEW_OBJECT.matcher(line).matches()) {
                x = new CubeBodies();
                calls = 0;
                continue;
            }
            Matcher call = CALL.matcher(line);
            boolean isCall = call.matches() && x != null;
            due("a call with its answer, of an object that there is: " + line, isCall, true);
            if (!isCall) continue;
            due(line, make(x, call.group(1), call.group(2)), answerOf(call.group(3)));
            shown.add(call.group(1));
            calls++;
            due("calls of one object are " + MOST_CALLS + " at most", calls <= MOST_CALLS, true);
        }
        due("the calls that are shown", shown, face());
    }

    /** The page's list names each test in its first words: `SomeTest`, `OtherTest`: what they test. */
    private static void namesTests(List<String> page) {
        TreeSet<String> named = new TreeSet<>();
        for (String line : page) {
            if (!line.startsWith("- `")) continue;
            Matcher name = Pattern.compile("`(\\w+Test)`").matcher(line.substring(0, line.indexOf(": ")));
            while (name.find()) named.add(name.group(1));
        }
        TreeSet<String> there = new TreeSet<>();
        String[] files = new File("src/test/java").list();
        for (String file : files == null ? new String[0] : files) there.add(file.replace(".java", ""));
        due("the tests that are named", named, there);
    }

    public static void main(String[] args) throws Exception {
        List<String> page = Files.readAllLines(Path.of("README.md"));
        List<String> example = exampleOf(page);
        makeExample(example);
        namesTests(page);
        System.out.println(wrong == 0 ? "the page's calls answer as it says" : wrong + " are not as the page says");
        if (wrong != 0) System.exit(1);
    }
}
