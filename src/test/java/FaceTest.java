import java.io.IOException;
import java.lang.reflect.Member;
import java.lang.reflect.Method;
import java.lang.reflect.Modifier;
import java.nio.file.Files;
import java.nio.file.Path;
import java.util.ArrayList;
import java.util.List;
import java.util.Set;
import java.util.TreeSet;
import java.util.regex.Matcher;
import java.util.regex.Pattern;

/** The public face, and those rules of the language that can be read from the file. */
public final class FaceTest {
    private static final String[] FACE = {
        "BAD", "STATE", "FULL", "NONE", "NO", "VelvetHand()",
        "int type(int)", "int clear()", "int embassy()", "int caller(int,int)", "int now(int)",
        "int shakes(int,int)", "int opens()", "int lines(int)", "int winds()", "int consoles(int)", "int undo()",
        "int way(int,int)", "int gain(int,int)", "int tune(int,int)", "int odds(int,int,int)",
        "int tells(int,int,int)", "int forget()", "int soft()", "int ask(int)",
        "int rate(int,int)", "int keep(int)", "int back(int)", "int count(int)", "long trace()",
    };
    private static final String[] FORBIDDEN = {
        "\\bthrow\\b", "\\btry\\b", "\\bcatch\\b", "\\bsynchronized\\b", "\\bassert\\b", "\\bimport\\b", "\\bpackage\\b",
        "\\w+Exact\\b", "->", "::", "\\brecord\\b", "static \\{", "\\bThread\\b", "\\bprotected\\b", "\\bObject\\b", "\\+ *\"",
    };

    public static void main(String[] args) throws IOException {
        face();
        constants();
        classesInside();
        source();
        Checks.end();
    }

    private static void holds(String what, boolean so) {
        Checks.due(what, 1, so ? 1 : 0);
    }

    private static void face() {
        Set<String> found = new TreeSet<>();
        Set<String> privates = new TreeSet<>();
        List<Member> members = new ArrayList<>(List.of(VelvetHand.class.getDeclaredMethods()));
        members.addAll(List.of(VelvetHand.class.getDeclaredFields()));
        members.addAll(List.of(VelvetHand.class.getDeclaredConstructors()));
        for (Member m : members) {
            if (m.isSynthetic()) continue;
            if (Modifier.isPrivate(m.getModifiers())) privates.add(m.getName());
            else found.add(shown(m));
        }
        for (String one : FACE) {
            holds("the face has " + one, found.remove(one));
            String name = one.replaceAll("\\(.*", "").replaceAll(".* ", "");
            holds("no private member is named " + name, !privates.contains(name));
        }
        holds("the face has no more: " + found, found.isEmpty());
        holds("public and final", Modifier.isFinal(VelvetHand.class.getModifiers()));
    }

    private static String shown(Member m) {
        if (!Modifier.isPublic(m.getModifiers())) return "not public: " + m;
        if (!(m instanceof Method)) return m instanceof java.lang.reflect.Constructor<?> ? m.getName() + "()" : m.getName();
        Method method = (Method) m;
        List<String> parameters = new ArrayList<>();
        for (Class<?> type : method.getParameterTypes()) parameters.add(type.getName());
        return method.getReturnType() + " " + m.getName() + "(" + String.join(",", parameters) + ")";
    }

    private static void constants() {
        Checks.due("BAD", -1, VelvetHand.BAD);
        Checks.due("STATE", -2, VelvetHand.STATE);
        Checks.due("FULL", -3, VelvetHand.FULL);
        Checks.due("NONE", -9, VelvetHand.NONE);
        Checks.due("NO", -1000000, VelvetHand.NO);
    }

    private static void classesInside() {
        for (Class<?> inside : VelvetHand.class.getDeclaredClasses()) {
            holds(inside + " is static", Modifier.isStatic(inside.getModifiers()));
            holds(inside + " is not public", !Modifier.isPublic(inside.getModifiers()));
        }
    }

    private static void source() throws IOException {
        String whole = Files.readString(Path.of("src/main/java/VelvetHand.java"));
        String code = whole.replaceAll("(?s)/\\*.*?\\*/", "").replaceAll("//[^\n]*", "");
        for (String word : FORBIDDEN) {
            Matcher found = Pattern.compile(word).matcher(code);
            holds("the file is without " + word, !found.find());
        }
        // Each index stands behind its test in at(), put(), momentAt(), or in a loop over a new row.
        Matcher indexed = Pattern.compile("\\b\\w+\\[\\w[^\\]]*\\]").matcher(code.replaceAll("new \\w+\\[[^\\]]*\\]", ""));
        Set<String> places = new TreeSet<>();
        while (indexed.find()) places.add(indexed.group());
        holds("rows are touched in few places: " + places, Set.of("row[i]", "rows[i]", "images[i]").containsAll(places));
    }
}
