import java.io.IOException;
import java.lang.reflect.Constructor;
import java.lang.reflect.Field;
import java.lang.reflect.Method;
import java.lang.reflect.Modifier;
import java.nio.file.Files;
import java.nio.file.Path;
import java.util.ArrayList;
import java.util.HashSet;
import java.util.List;
import java.util.Set;
import java.util.TreeSet;

/** The public face of the document, and rules of ../shared/LANGUAGE.md that a program can look at. */
final class FaceTest {
    private static final Path SOURCE = Path.of("src/main/java/GlassHarp.java");
    private static final int MOST_LINES_OF_A_METHOD = 60;
    private static final String[] FACE = {
        "int set(int,int,int) IllegalArgumentException IllegalStateException",
        "int drop(int,int) IndexOutOfBoundsException IllegalArgumentException IllegalStateException",
        "int pump(int,int) IndexOutOfBoundsException IllegalArgumentException",
        "int glass(int,int) IndexOutOfBoundsException",
        "int row(int,int) IndexOutOfBoundsException",
        "int setLength(int) IllegalArgumentException",
        "int note(int,int,int) IllegalArgumentException IllegalStateException",
        "int strike(int) IndexOutOfBoundsException",
        "int written(int,int) IndexOutOfBoundsException",
        "int play(int) IllegalArgumentException",
        "int count(int) IndexOutOfBoundsException",
        "int needs(int,int) IndexOutOfBoundsException IllegalArgumentException",
        "int foresee(int,int) IllegalArgumentException IndexOutOfBoundsException",
        "int advise(int,int) IllegalArgumentException",
        "int wants(int,int) IndexOutOfBoundsException IllegalArgumentException",
        "double mean()",
        "long digest()"};
    private static final String[] NOT_IN_THE_LANGUAGE = {
        "import ", "package ", "->", "::", "try ", "catch", "finally", "synchronized", "assert",
        "instanceof", "System.out", "Exact(", "+ \"", "\" +", "protected", "volatile", "native", "Object"};

    private static final Checks checks = new Checks();

    public static void main(String[] args) throws IOException {
        members();
        privateNames();
        staticFields();
        source(Files.readAllLines(SOURCE));
        checks.end();
    }

    private static void members() {
        checks.isTrue("public final", Modifier.isPublic(GlassHarp.class.getModifiers())
            && Modifier.isFinal(GlassHarp.class.getModifiers()));
        Constructor<?>[] constructors = GlassHarp.class.getDeclaredConstructors();
        checks.isTrue("one public constructor", constructors.length == 1
            && Modifier.isPublic(constructors[0].getModifiers()) && constructors[0].getParameterCount() == 0);
        Set<String> found = new TreeSet<>();
        for (Method method : GlassHarp.class.getDeclaredMethods()) {
            if (!Modifier.isPrivate(method.getModifiers())) {
                found.add(line(method));
            }
        }
        checks.sameText("the face", found.toString(), new TreeSet<>(List.of(FACE)).toString());
    }

    private static String line(Method method) {
        List<String> parameters = new ArrayList<>();
        for (Class<?> type : method.getParameterTypes()) {
            parameters.add(type.getSimpleName());
        }
        StringBuilder line = new StringBuilder(method.getReturnType().getSimpleName() + " " + method.getName());
        line.append("(").append(String.join(",", parameters)).append(")");
        for (Class<?> thrown : method.getExceptionTypes()) {
            line.append(" ").append(thrown.getSimpleName());
        }
        return line.toString();
    }

    private static void privateNames() {
        Set<String> names = new HashSet<>();
        for (String line : FACE) {
            names.add(line.substring(line.indexOf(' ') + 1, line.indexOf('(')));
        }
        List<Class<?>> all = new ArrayList<>(List.of(GlassHarp.class.getDeclaredClasses()));
        all.add(GlassHarp.class);
        for (Class<?> one : all) {
            for (Method method : one.getDeclaredMethods()) {
                checks.isTrue("its own name: " + method, !Modifier.isPrivate(method.getModifiers())
                    || !names.contains(method.getName()));
                checks.isTrue("few parameters: " + method, method.getParameterCount() <= 7);
            }
        }
    }

    private static void staticFields() {
        for (Field field : GlassHarp.class.getDeclaredFields()) {
            checks.isTrue("private: " + field, Modifier.isPrivate(field.getModifiers()));
            checks.isTrue("final: " + field, Modifier.isFinal(field.getModifiers()));
        }
    }

    private static void source(List<String> lines) {
        int start = 0;
        for (int i = 0; i < lines.size(); i++) {
            String line = lines.get(i);
            String code = line.strip();
            if (code.startsWith("//") || code.startsWith("/*") || code.startsWith("*")) {
                continue;
            }
            for (String word : NOT_IN_THE_LANGUAGE) {
                checks.isTrue("line " + (i + 1) + " without " + word, !line.contains(word));
            }
            if (code.endsWith(") {") || code.contains(") throws ") || code.startsWith("throws ")) {
                start = line.indexOf(code) <= 8 && !code.startsWith("for") && !code.startsWith("if") ? i : start;
            }
            checks.isTrue("line " + (i + 1) + " in a short method",
                !line.startsWith("        ") || i - start <= MOST_LINES_OF_A_METHOD);
        }
    }
}
