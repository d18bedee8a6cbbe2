import java.lang.reflect.Method;
import java.lang.reflect.Modifier;
import java.nio.charset.StandardCharsets;
import java.nio.file.Files;
import java.nio.file.Path;
import java.util.List;
import java.util.Map;
import java.util.TreeMap;
import java.util.regex.Matcher;
import java.util.regex.Pattern;
import java.util.stream.Stream;

/** README.md says how to use the class and how to run its tests: its examples hold, and it leaves nothing out. */
public final class ReadmeTest {
    private static final Pattern EXAMPLES = Pattern.compile("(?s)```java\n(.*?)```");
    private static final Pattern TELL = Pattern.compile("tell\\(x, ([01]), \"([^\"]*)\"\\); *(//.*)?");
    private static final Pattern CALL = Pattern.compile("x\\.(\\w+)\\(([^)]*)\\); *// (-?\\d+)\\b.*");
    private static final Pattern NAMED = Pattern.compile("`(\\w+)\\(([^)`]*)\\)`");
    private static int wrong = 0;
    private static int calls = 0;

    private static void must(boolean holds, String what) {
        if (!holds) {
            wrong++;
            System.out.println(what);
        }
    }

    public static void main(String[] args) throws Exception {
        String readme = Files.readString(Path.of("README.md"), StandardCharsets.UTF_8);
        Map<String, Method> face = face();
        Matcher example = EXAMPLES.matcher(readme);
        while (example.find()) runExample(example.group(1), face);
        must(calls > 0, "no example calls anything");
        everyCallIsNamed(readme, face);
        testsAreNamed(readme);
        System.out.println(wrong == 0 ? "README.md holds, with " + calls + " calls" : wrong + " faults of README.md");
        if (wrong != 0) System.exit(1);
    }

    private static Map<String, Method> face() {
        Map<String, Method> face = new TreeMap<>();
        for (Method m : IceHouse.class.getDeclaredMethods())
            if (Modifier.isPublic(m.getModifiers())) face.put(m.getName(), m);
        return face;
    }

    private static void runExample(String lines, Map<String, Method> face) throws Exception {
        IceHouse x = new IceHouse();
        for (String line : lines.split("\n")) {
            Matcher tell = TELL.matcher(line), call = CALL.matcher(line);
            if (tell.matches()) {
                int text = Integer.parseInt(tell.group(1));
                for (char b : tell.group(2).toCharArray()) must(x.type(text, b) > 0, line + " is refused");
            } else if (call.matches() && face.containsKey(call.group(1))) {
                calls++;
                Object answer = face.get(call.group(1)).invoke(x, arguments(call.group(2)));
                must(answer.toString().equals(call.group(3)), line + " .. but the answer is " + answer);
            } else must(line.equals("IceHouse x = new IceHouse();"), "no such call, or no answer told: " + line);
        }
    }

    private static Object[] arguments(String told) {
        if (told.isEmpty()) return new Object[0];
        return Stream.of(told.split(", ")).map(it -> it.equals("IceHouse.NONE") ? -1 : Integer.parseInt(it)).toArray();
    }

    private static void everyCallIsNamed(String readme, Map<String, Method> face) {
        Map<String, Method> left = new TreeMap<>(face);
        Matcher named = NAMED.matcher(readme);
        while (named.find()) {
            Method m = face.get(named.group(1));
            int arguments = named.group(2).isEmpty() ? 0 : named.group(2).split(",").length;
            must(m != null && m.getParameterCount() == arguments, "the face has no " + named.group());
            left.remove(named.group(1));
        }
        must(left.isEmpty(), "README.md does not name " + left.keySet());
        for (String constant : List.of("`NONE` -1", "`BAD` -2", "`NOT` -3", "`FULL` -4"))
            must(readme.contains(constant), "README.md does not tell " + constant);
    }

    private static void testsAreNamed(String readme) throws Exception {
        must(readme.contains("\n.ci/run\n"), "README.md does not tell how to run the tests");
        must(Files.isExecutable(Path.of(".ci/run")), ".ci/run cannot be run");
        try (Stream<Path> tests = Files.list(Path.of("src/test/java"))) {
            for (String test : tests.map(it -> it.getFileName().toString()).filter(it -> it.endsWith("Test.java")).toList())
                must(readme.contains("`" + test.replace(".java", "") + "`: "), "README.md does not name " + test);
        }
    }
}
