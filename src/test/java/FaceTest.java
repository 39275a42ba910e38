import java.io.IOException;
import java.lang.reflect.Field;
import java.lang.reflect.Method;
import java.lang.reflect.Modifier;
import java.nio.file.Files;
import java.nio.file.Path;
import java.util.ArrayList;
import java.util.Arrays;
import java.util.HashSet;
import java.util.List;
import java.util.Set;
import java.util.TreeSet;
import java.util.regex.Matcher;
import java.util.regex.Pattern;

/** The public face is that of the document, and the source keeps to what can be seen of LANGUAGE.md. */
public final class FaceTest {
    private static final Path SOURCE = Path.of("src/main/java/GapYard.java");
    private static final Path DOCUMENT = Path.of("../shared/DOC.md");
    private static final Check CHECK = new Check();

    public static void main(String[] args) throws IOException {
        CHECK.part("face");
        CHECK.due(documented(), () -> present());
        CHECK.due(1, () -> GapYard.class.getConstructors().length);
        CHECK.due(true, () -> Modifier.isFinal(GapYard.class.getModifiers()));
        members();
        CHECK.part("source");
        source(Files.readString(SOURCE));
        CHECK.end();
    }

    /** The face as the document writes it, a method a line. */
    private static Set<String> documented() throws IOException {
        Set<String> face = new TreeSet<>();
        Matcher matcher = Pattern.compile("    public (\\w+ \\w+\\([^)]*\\)[^;]*);").matcher(Files.readString(DOCUMENT));
        while (matcher.find()) {
            face.add(matcher.group(1).replaceAll(" throws ", " ").replaceAll("(int|boolean|char) \\w+(?=[,)])", "$1"));
        }
        return face;
    }

    private static Set<String> present() {
        Set<String> face = new TreeSet<>();
        for (Method method : GapYard.class.getDeclaredMethods()) {
            if (!Modifier.isPrivate(method.getModifiers())) {
                List<String> types = new ArrayList<>();
                for (Class<?> type : method.getParameterTypes()) {
                    types.add(type.getSimpleName());
                }
                List<String> thrown = new ArrayList<>();
                for (Class<?> type : method.getExceptionTypes()) {
                    thrown.add(type.getSimpleName());
                }
                face.add(method.getReturnType() + " " + method.getName() + "(" + String.join(", ", types) + ")"
                        + (thrown.isEmpty() ? "" : " ") + String.join(", ", thrown));
            }
        }
        return face;
    }

    private static void members() {
        Set<String> names = new HashSet<>();
        for (Method method : GapYard.class.getDeclaredMethods()) {
            if (Modifier.isPublic(method.getModifiers())) {
                names.add(method.getName());
            }
        }
        List<Class<?>> classes = new ArrayList<>(Arrays.asList(GapYard.class.getDeclaredClasses()));
        CHECK.due(true, () -> classes.size() < 12);
        classes.add(GapYard.class);
        for (Class<?> type : classes) {
            for (Method method : type.getDeclaredMethods()) {
                boolean isHidden = Modifier.isPrivate(method.getModifiers());
                CHECK.due(false, () -> isHidden && names.contains(method.getName()));
                CHECK.due(true, () -> method.getParameterCount() <= 7);
            }
            int fields = 0;
            for (Field field : type.getDeclaredFields()) {
                CHECK.due(true, () -> Modifier.isPrivate(field.getModifiers()));
                boolean isStatic = Modifier.isStatic(field.getModifiers());
                CHECK.due(true, () -> !isStatic || Modifier.isFinal(field.getModifiers()));
                CHECK.due(true, () -> !isStatic || field.getType() == int.class);
                fields += isStatic ? 0 : 1;
            }
            int count = fields;
            CHECK.due(true, () -> count <= 20);
        }
    }

    private static void source(String text) {
        String code = text.replaceAll("(?s)/\\*.*?\\*/", "").replaceAll("//[^\n]*", "");
        for (String token : new String[] {"try", "catch", "finally", "package", "synchronized", "assert", "while",
                "instanceof", "System", "Random", "Thread", "Object", "hashCode", "toString", "static \\{", "->", "::",
                "\\w+Exact\\b", "Integer", "Long", "Math\\.(?!max|min)", "Arrays\\.(?!fill)", "\\[\\]\\[\\]", "Double", "Float", "\" \\+", "\\+ \""}) {
            String pattern = token.matches("\\w+") ? "\\b" + token + "\\b" : token;
            CHECK.due("no " + token, () -> Pattern.compile(pattern).matcher(code).find() ? "a " + token : "no " + token);
        }
        CHECK.due(true, () -> text.chars().allMatch(c -> c == '\n' || c >= 32 && c < 127));
        Set<String> imports = new TreeSet<>();
        Matcher matcher = Pattern.compile("import ([^;]+);").matcher(code);
        while (matcher.find()) {
            imports.add(matcher.group(1));
        }
        CHECK.due("[java.util.Arrays, java.util.NoSuchElementException]", () -> imports);
        methods(code);
    }

    /** Methods of at most 60 lines. */
    private static void methods(String code) {
        String[] lines = code.split("\n");
        int start = -1;
        String indent = "";
        for (int i = 0; i < lines.length; i++) {
            Matcher matcher = Pattern.compile("( {4}| {8})(?:public|private) .*\\).*").matcher(lines[i]);
            if (start < 0 && matcher.matches() && !lines[i].endsWith(";")) {
                start = i;
                indent = matcher.group(1);
            } else if (start >= 0 && lines[i].equals(indent + "}")) {
                int length = i - start + 1;
                CHECK.due(true, () -> length <= 60);
                start = -1;
            }
        }
        int open = start;
        CHECK.due(-1, () -> open);
    }
}
