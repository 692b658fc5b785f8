import java.io.IOException;
import java.lang.reflect.Method;
import java.lang.reflect.Modifier;
import java.nio.file.Files;
import java.nio.file.Path;
import java.util.List;
import java.util.Map;
import java.util.TreeMap;
import java.util.regex.Matcher;
import java.util.regex.Pattern;
import java.util.stream.Stream;

/** README.md tells the truth: its example answers as it says there, its table names each call, its list each test. */
public final class ReadmeTest {
    private static final Pattern TEXT = Pattern.compile(" {4}String text = \"(.*)\";");
    private static final Pattern CALL = Pattern.compile(" {4}hand\\.(\\w+)\\(([-0-9, ]*)\\); +// (-?\\d+): .*");
    private static final Pattern ROW = Pattern.compile("\\| `(\\w+)\\(([\\w, ]*)\\)` \\|.*");
    private static final Map<String, Method> METHODS = new TreeMap<>();

    public static void main(String[] args) throws IOException, ReflectiveOperationException {
        for (Method method : VelvetHand.class.getDeclaredMethods()) {
            if (Modifier.isPublic(method.getModifiers())) {
                METHODS.put(method.getName(), method);
            }
        }
        List<String> lines = Files.readAllLines(Path.of("README.md"));
        example(lines);
        table(lines);
        numbers(String.join(" ", lines));
        traces(String.join(" ", lines));
        tests(String.join(" ", lines));
        Checks.end();
    }

    private static void holds(String what, boolean so) {
        Checks.due(what, 1, so ? 1 : 0);
    }

    private static void example(List<String> lines) throws ReflectiveOperationException {
        VelvetHand hand = new VelvetHand();
        int calls = 0;
        for (String line : lines) {
            Matcher text = TEXT.matcher(line);
            if (text.matches()) {
                Checks.typeAll(hand, text.group(1));
            }
            Matcher call = CALL.matcher(line);
            if (call.matches()) {
                calls++;
                Checks.due(line.trim(), Long.parseLong(call.group(3)), called(hand, call.group(1), call.group(2)));
            }
        }
        Checks.due("calls of the example", lines.stream().filter(line -> line.contains("; ") && line.contains("// ")).count(),
            calls);
        holds("the example calls the hand", calls > 5);
    }

    private static long called(VelvetHand hand, String name, String numbers) throws ReflectiveOperationException {
        String[] parts = numbers.isEmpty() ? new String[0] : numbers.split(", ");
        Object[] arguments = new Object[parts.length];
        for (int i = 0; i < parts.length; i++) {
            arguments[i] = Integer.parseInt(parts[i]);
        }
        return ((Number) METHODS.get(name).invoke(hand, arguments)).longValue();
    }

    private static void table(List<String> lines) {
        Map<String, Integer> named = new TreeMap<>();
        for (String line : lines) {
            Matcher row = ROW.matcher(line);
            if (row.matches()) {
                String numbers = row.group(2);
                int many = numbers.isEmpty() ? 0 : numbers.split(",").length;
                holds(row.group(1) + " is named once", named.put(row.group(1), many) == null);
            }
        }
        holds("the table has just the calls of the class", named.keySet().equals(METHODS.keySet()));
        for (Map.Entry<String, Integer> one : named.entrySet()) {
            Method method = METHODS.get(one.getKey());
            Checks.due("numbers of " + one.getKey(), method == null ? -1 : method.getParameterCount(), one.getValue());
        }
    }

    private static void numbers(String page) {
        holds("BAD", page.contains("`BAD` (" + VelvetHand.BAD + ","));
        holds("STATE", page.contains("`STATE` (" + VelvetHand.STATE + ","));
        holds("FULL", page.contains("`FULL` (" + VelvetHand.FULL + ","));
        holds("NONE", page.contains("`NONE` (" + VelvetHand.NONE + ")"));
        holds("NO", page.contains("`NO`, " + VelvetHand.NO + ","));
    }

    private static void traces(String page) {
        VelvetHand hand = Checks.told("c1 0 0 0;");
        StringBuilder added = new StringBuilder();
        long before = 0;
        for (int kind = 0; kind < 6; kind++) {
            hand.rate(kind, 0);
            added.append(kind == 0 ? "" : ", ").append(hand.trace() - before);
            before = hand.trace();
        }
        holds("what each kind adds: " + added, page.contains(": " + added + " by kind"));
    }

    private static void tests(String page) throws IOException {
        try (Stream<Path> files = Files.list(Path.of("src/test/java"))) {
            for (Path file : (Iterable<Path>) files::iterator) {
                String name = file.getFileName().toString().replace(".java", "");
                holds(name + " is told of", page.contains("`" + name + "`"));
            }
        }
    }
}
