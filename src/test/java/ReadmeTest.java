import java.io.IOException;
import java.lang.reflect.Method;
import java.lang.reflect.Modifier;
import java.nio.file.Files;
import java.nio.file.Path;
import java.util.ArrayList;
import java.util.HashMap;
import java.util.List;
import java.util.Map;
import java.util.TreeSet;
import java.util.regex.Matcher;
import java.util.regex.Pattern;
import java.util.stream.Stream;

/** Runs the calls of README.md's example as they stand there, and compares with the answers that it tells. */
public final class ReadmeTest {
    private static final String FRESH = "ScanBench bench = new ScanBench();";
    private static final Pattern CALL =
        Pattern.compile("(?:int (\\w+) = )?bench\\.(\\w+)\\(([^()]*)\\);\\s*// (-?\\d+|[A-Z]+): .+");
    private static final int MOST_CALLS = 512;

    private static int wrong = 0;
    private static int calls = 0;

    private final Map<String, Integer> named = new HashMap<>();
    private final TreeSet<String> used = new TreeSet<>();
    private ScanBench bench;

    private static void fault(String what) {
        wrong++;
        System.out.println("README.md: " + what);
    }

    public static void main(String[] args) throws Exception {
        List<String> text = Files.readAllLines(Path.of("README.md"));
        new ReadmeTest().runExample(exampleOf(text));
        eachTestIsNamed(String.join("\n", text));
        System.out.println("ReadmeTest: " + calls + " calls, " + wrong + " not as README.md tells");
        if (wrong != 0) {
            System.exit(1);
        }
    }

    private static List<String> exampleOf(List<String> text) {
        List<String> example = new ArrayList<>();
        boolean inside = false;
        for (String line : text) {
            if (line.startsWith("```")) {
                inside = line.equals("```java");
            } else if (inside && !line.isBlank()) {
                example.add(line);
            }
        }
        return example;
    }

    private void runExample(List<String> example) throws Exception {
        for (String line : example) {
            if (line.equals(FRESH) && bench == null) {
                bench = new ScanBench();
            } else {
                runCall(line);
            }
        }
        if (calls > MOST_CALLS) {
            fault("the example makes " + calls + " calls on one object");
        }
        if (!used.equals(face())) {
            fault("the example uses " + used + ", the face is " + face());
        }
    }

    private void runCall(String line) throws Exception {
        Matcher m = CALL.matcher(line);
        if (bench == null || !m.matches()) {
            fault("no call with its answer: " + line);
            return;
        }
        Method method = methodNamed(m.group(2));
        String[] texts = m.group(3).isEmpty() ? new String[0] : m.group(3).split(", ");
        if (method == null || method.getParameterCount() != texts.length) {
            fault("the face has no such call: " + line);
            return;
        }
        Object[] arguments = new Object[texts.length];
        for (int i = 0; i < texts.length; i++) {
            boolean isFlag = method.getParameterTypes()[i] == boolean.class;
            arguments[i] = isFlag ? (Object) flag(texts[i]) : (Object) number(texts[i]);
        }
        int answer = (Integer) method.invoke(bench, arguments);
        int told = answerTold(m.group(4));
        calls++;
        used.add(method.getName());
        if (answer != told) {
            fault("the answer is " + answer + ": " + line);
        }
        if (m.group(1) != null && named.put(m.group(1), answer) != null) {
            fault("a name is told twice: " + line);
        }
    }

    private static boolean flag(String text) {
        if (!text.equals("true") && !text.equals("false")) {
            fault(text + " is neither true nor false");
        }
        return text.equals("true");
    }

    private int number(String text) throws Exception {
        if (text.matches("-?\\d+")) {
            return Integer.parseInt(text);
        }
        if (text.startsWith("ScanBench.")) {
            return constant(text.substring("ScanBench.".length()));
        }
        if (!named.containsKey(text)) {
            fault("the example has no name " + text);
        }
        return named.getOrDefault(text, 0);
    }

    private static int answerTold(String text) throws Exception {
        return text.matches("-?\\d+") ? Integer.parseInt(text) : constant(text);
    }

    private static int constant(String name) throws Exception {
        return ScanBench.class.getField(name).getInt(null);
    }

    private static Method methodNamed(String name) {
        for (Method method : ScanBench.class.getDeclaredMethods()) {
            if (Modifier.isPublic(method.getModifiers()) && method.getName().equals(name)) {
                return method;
            }
        }
        return null;
    }

    private static TreeSet<String> face() {
        TreeSet<String> names = new TreeSet<>();
        for (Method method : ScanBench.class.getDeclaredMethods()) {
            if (Modifier.isPublic(method.getModifiers())) {
                names.add(method.getName());
            }
        }
        return names;
    }

    private static void eachTestIsNamed(String text) throws IOException {
        try (Stream<Path> files = Files.list(Path.of("src/test/java"))) {
            for (Path file : files.sorted().toList()) {
                String name = file.getFileName().toString().replace(".java", "");
                if (!text.contains("`" + name + "`")) {
                    fault("it does not name the test " + name);
                }
            }
        }
    }
}
