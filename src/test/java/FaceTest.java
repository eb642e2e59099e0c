import java.lang.reflect.Constructor;
import java.lang.reflect.Field;
import java.lang.reflect.Method;
import java.lang.reflect.Modifier;
import java.nio.file.Path;
import java.util.ArrayList;
import java.util.List;
import java.util.Map;
import java.util.TreeMap;
import java.util.regex.Matcher;
import java.util.regex.Pattern;

/** The public face of the document, and rules of ../shared/LANGUAGE.md that a program can look at. */
final class FaceTest {
    private static final Path SOURCE = Path.of("src/main/java/GlassHarp.java");
    private static final int MOST_LINES_OF_A_METHOD = 60;
    private static final Pattern CALL = Pattern.compile("public (\\w+) (\\w+)\\((.*?)\\)(?: throws (.*))?;");
    private static final Pattern GROUP = Pattern.compile("Ahead of the calls (.*) the interface says: ---- (.*)\\.");
    private static final String[] NOT_IN_THE_LANGUAGE = {
        "import ", "package ", "->", "::", "try ", "catch", "finally", "synchronized", "assert",
        "instanceof", "System.out", "Exact(", "+ \"", "\" +", "protected", "volatile", "native", "Object"};

    private static final Checks checks = new Checks();
    /** The calls of the document's face, such as "int play(int) IllegalArgumentException", by their names. */
    private static final Map<String, String> face = new TreeMap<>();

    public static void main(String[] args) {
        readFace();
        members();
        privateNames();
        staticFields();
        order();
        source(Markdown.lines(SOURCE));
        checks.end();
    }

    private static void readFace() {
        for (String line : Markdown.blocks(Markdown.DOCUMENT, "java").get(0)) {
            Matcher call = CALL.matcher(line.strip());
            if (call.matches()) {
                String types = call.group(3).replaceAll("(\\w+) \\w+", "$1").replace(" ", "");
                String thrown = call.group(4) == null ? "" : " " + call.group(4).replace(",", "");
                face.put(call.group(2), call.group(1) + " " + call.group(2) + "(" + types + ")" + thrown);
            }
        }
        checks.same("calls of the face", face.size(), 17);
    }

    private static void members() {
        checks.isTrue("public final", Modifier.isPublic(GlassHarp.class.getModifiers())
            && Modifier.isFinal(GlassHarp.class.getModifiers()));
        Constructor<?>[] constructors = GlassHarp.class.getDeclaredConstructors();
        checks.isTrue("one public constructor", constructors.length == 1
            && Modifier.isPublic(constructors[0].getModifiers()) && constructors[0].getParameterCount() == 0);
        Map<String, String> found = new TreeMap<>();
        for (Method method : GlassHarp.class.getDeclaredMethods()) {
            if (!Modifier.isPrivate(method.getModifiers())) {
                checks.isTrue("once: " + method, found.put(method.getName(), line(method)) == null);
            }
        }
        checks.sameText("the face", found.toString(), face.toString());
    }

    private static String line(Method method) {
        List<String> parameters = new ArrayList<>();
        for (Class<?> type : method.getParameterTypes()) {
            parameters.add(type.getSimpleName());
        }
        StringBuilder line = new StringBuilder(method.getReturnType().getSimpleName() + " " + method.getName());
        line.append("(").append(String.join(",", parameters)).append(")");
        for (Class<?> thrown : method.getExceptionTypes()) {
            line.append(" ").append(thrown.getSimpleName());
        }
        return line.toString();
    }

    private static void privateNames() {
        List<Class<?>> all = new ArrayList<>(List.of(GlassHarp.class.getDeclaredClasses()));
        all.add(GlassHarp.class);
        for (Class<?> one : all) {
            for (Method method : one.getDeclaredMethods()) {
                checks.isTrue("its own name: " + method, !Modifier.isPrivate(method.getModifiers())
                    || !face.containsKey(method.getName()));
                checks.isTrue("few parameters: " + method, method.getParameterCount() <= 7);
            }
        }
    }

    private static void staticFields() {
        for (Field field : GlassHarp.class.getDeclaredFields()) {
            checks.isTrue("private: " + field, Modifier.isPrivate(field.getModifiers()));
            checks.isTrue("final: " + field, Modifier.isFinal(field.getModifiers()));
        }
    }

    /** The calls stand in the document's order, each group behind what the interface says ahead of it. */
    private static void order() {
        StringBuilder due = new StringBuilder();
        for (String line : Markdown.lines(Markdown.DOCUMENT)) {
            Matcher group = GROUP.matcher(line);
            if (group.matches()) {
                due.append(" ---- ").append(group.group(2)).append(" ").append(group.group(1).replaceAll("[`,]", ""));
            }
        }
        StringBuilder found = new StringBuilder();
        for (String line : Markdown.lines(SOURCE)) {
            if (line.startsWith("    // ---- ")) {
                found.append(line.substring("    //".length()));
            } else if (line.matches("    public \\w+ \\w+\\(.*")) {
                found.append(line.replaceFirst("    public \\w+( \\w+)\\(.*", "$1"));
            }
        }
        checks.sameText("the order of the face", found.toString(), due.toString());
    }

    private static void source(List<String> lines) {
        int start = 0;
        for (int i = 0; i < lines.size(); i++) {
            String line = lines.get(i);
            String code = line.strip();
            if (code.startsWith("//") || code.startsWith("/*") || code.startsWith("*")) {
                continue;
            }
            for (String word : NOT_IN_THE_LANGUAGE) {
                checks.isTrue("line " + (i + 1) + " without " + word, !line.contains(word));
            }
            if (code.endsWith(") {") || code.contains(") throws ") || code.startsWith("throws ")) {
                start = line.indexOf(code) <= 8 && !code.startsWith("for") && !code.startsWith("if") ? i : start;
            }
            checks.isTrue("line " + (i + 1) + " in a short method",
                !line.startsWith("        ") || i - start <= MOST_LINES_OF_A_METHOD);
        }
    }
}
