import java.io.IOException;
import java.lang.reflect.Array;
import java.lang.reflect.Field;
import java.lang.reflect.Method;
import java.lang.reflect.Modifier;
import java.nio.file.Files;
import java.nio.file.Path;
import java.util.ArrayList;
import java.util.HashSet;
import java.util.IdentityHashMap;
import java.util.LinkedHashMap;
import java.util.List;
import java.util.Map;
import java.util.Set;
import java.util.regex.Matcher;
import java.util.regex.Pattern;

/** Bounds of the language that the program keeps to: sizes, depth of calls, what a hand takes of the room. */
public final class LanguageTest {
    private static final Pattern METHOD =
        Pattern.compile("^( {4}| {8})(?:public |private |static )*[\\w\\[\\]]+ ([a-z]\\w*)\\([^)]*\\) \\{$");
    private static final Map<String, String> BODIES = new LinkedHashMap<>();

    public static void main(String[] args) throws IOException, IllegalAccessException {
        List<String> lines = Files.readAllLines(Path.of("src/main/java/VelvetHand.java"));
        signs(lines);
        bodies(lines);
        classes();
        nothingIsMadeInCalls();
        depthOfCalls();
        room();
        Checks.end();
    }

    private static void holds(String what, boolean so) {
        Checks.due(what, 1, so ? 1 : 0);
    }

    private static void signs(List<String> lines) {
        for (int i = 0; i < lines.size(); i++) {
            holds("signs of 32 to 126 only in line " + (i + 1), lines.get(i).chars().allMatch(s -> s >= 32 && s < 127));
        }
    }

    // Methods of one name are taken together: no depth is told too low by that.
    private static void bodies(List<String> lines) {
        for (int i = 0; i < lines.size(); i++) {
            Matcher method = METHOD.matcher(lines.get(i));
            if (!method.matches()) {
                continue;
            }
            StringBuilder body = new StringBuilder();
            int end = i + 1;
            for (; !lines.get(end).equals(method.group(1) + "}"); end++) {
                body.append(lines.get(end).replaceAll("//.*", "")).append('\n');
            }
            holds(method.group(2) + " has sixty lines at most", end - i <= 60);
            BODIES.merge(method.group(2), body.toString(), String::concat);
        }
        holds("methods were found", BODIES.size() > 60);
    }

    private static List<Class<?>> all() {
        List<Class<?>> all = new ArrayList<>(List.of(VelvetHand.class.getDeclaredClasses()));
        all.add(VelvetHand.class);
        return all;
    }

    private static void classes() {
        holds("twelve classes at most", all().size() <= 12);
        for (Class<?> one : all()) {
            int fields = 0;
            for (Field field : one.getDeclaredFields()) {
                boolean isStatic = Modifier.isStatic(field.getModifiers());
                fields += isStatic ? 0 : 1;
                holds(field + " is a constant if static",
                    !isStatic || Modifier.isFinal(field.getModifiers()) && field.getType() == int.class);
            }
            holds(one + " has twenty fields at most", fields <= 20);
            for (Method method : one.getDeclaredMethods()) {
                holds(method + " takes seven numbers at most", method.getParameterCount() <= 7);
            }
        }
    }

    private static void nothingIsMadeInCalls() {
        for (Map.Entry<String, String> body : BODIES.entrySet()) {
            holds(body.getKey() + " makes no object", !body.getValue().contains("new "));
        }
    }

    private static void depthOfCalls() {
        for (String method : BODIES.keySet()) {
            int depth = depth(method, new HashSet<>());
            holds(method + " is at most eight deep, is " + depth, depth <= 8);
        }
    }

    private static int depth(String method, Set<String> open) {
        if (!open.add(method)) {
            holds(method + " does not call itself", false);
            return 0;
        }
        int deepest = 0;
        Matcher call = Pattern.compile("\\b(\\w+)\\(").matcher(BODIES.get(method));
        while (call.find()) {
            if (BODIES.containsKey(call.group(1))) {
                deepest = Math.max(deepest, depth(call.group(1), open));
            }
        }
        open.remove(method);
        return deepest + 1;
    }

    private static void room() throws IllegalAccessException {
        VelvetHand hand = Checks.told("g9;v9;s60;c30 30 9 5;c30 30 9 5;");
        long[] before = size(hand);
        holds("objects and arrays of a hand: " + before[0], before[0] <= 100);
        holds("fields and elements of a hand: " + before[1], before[1] <= 1000);
        for (int i = 0; i < 150; i++) {
            hand.type('c');
            hand.shakes(i % 2, 1);
            hand.keep(i % 2);
        }
        long[] behind = size(hand);
        Checks.due("objects of a used hand", before[0], behind[0]);
        Checks.due("elements of a used hand", before[1], behind[1]);
    }

    private static long[] size(Object hand) throws IllegalAccessException {
        IdentityHashMap<Object, Boolean> seen = new IdentityHashMap<>();
        List<Object> open = new ArrayList<>(List.of(hand));
        long elements = 0;
        while (!open.isEmpty()) {
            Object one = open.remove(open.size() - 1);
            if (seen.put(one, true) != null) {
                continue;
            }
            if (one.getClass().isArray()) {
                elements += Array.getLength(one);
                for (int i = 0; one instanceof Object[] && i < Array.getLength(one); i++) {
                    open.add(Array.get(one, i));
                }
                continue;
            }
            for (Field field : one.getClass().getDeclaredFields()) {
                if (Modifier.isStatic(field.getModifiers())) {
                    continue;
                }
                elements++;
                field.setAccessible(true);
                if (!field.getType().isPrimitive()) {
                    open.add(field.get(one));
                }
            }
        }
        return new long[] {seen.size(), elements};
    }
}
