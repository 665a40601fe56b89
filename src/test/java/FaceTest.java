import java.io.IOException;
import java.lang.reflect.Constructor;
import java.lang.reflect.Field;
import java.lang.reflect.Method;
import java.lang.reflect.Modifier;
import java.nio.file.Files;
import java.nio.file.Path;
import java.util.Arrays;
import java.util.Set;
import java.util.TreeSet;
import java.util.regex.Matcher;
import java.util.regex.Pattern;

/** The document's face and nothing more, and the rules of LANGUAGE.md that can be seen from outside. */
public final class FaceTest {
    private static final String[] FACE = {
        "int node(int, int, int)", "int pipe(int, int, int, int)", "int area(int, int, int)", "int rain(int, int)",
        "int pump(int, int, int, int, int)", "int gate(int, int, int)", "int gully(int, int, int)",
        "int street(int, int)", "int run(int)", "long told(int, int)", "long flow(int, int)", "long cell(int)",
        "int pumps(int)", "long litres(int)", "boolean keeps()", "int list(int, int)", "boolean begin(int, int)",
        "int piece(int, int, int)", "long lay(int, int)", "int laid(int, int)", "int count(int)"};

    private static final String[] NOT_ALLOWED = {
        "throw", "throws", "try", "catch", "finally", "synchronized", "assert", "protected", "package",
        "hashCode", "toString", "System", "Random", "Thread", "->", "::"};

    public static void main(String[] args) throws IOException {
        face();
        nestedClasses();
        source();
        Check.same("BAD", StormPipes.BAD, -1);
        Check.end();
    }

    private static void face() {
        Class<?> type = StormPipes.class;
        Check.same("public and final", Modifier.isPublic(type.getModifiers()) && Modifier.isFinal(type.getModifiers()), true);
        Set<String> seen = new TreeSet<>();
        for (Method method : type.getDeclaredMethods()) {
            boolean isPrivate = Modifier.isPrivate(method.getModifiers());
            boolean isPublic = Modifier.isPublic(method.getModifiers());
            Check.same(method + " is public or private", isPublic || isPrivate, true);
            if (isPublic) {
                seen.add(shape(method));
            } else {
                Check.same(method + " has a name of its own", names().contains(method.getName()), false);
            }
        }
        Check.same("the methods of the face: " + seen, seen.equals(new TreeSet<>(Arrays.asList(FACE))), true);
        Check.same("constructors", type.getDeclaredConstructors().length, 1);
        for (Constructor<?> constructor : type.getDeclaredConstructors()) {
            boolean isDue = Modifier.isPublic(constructor.getModifiers())
                && Arrays.equals(constructor.getParameterTypes(), new Class<?>[] {int.class});
            Check.same(constructor.toString(), isDue, true);
        }
        for (Field field : type.getDeclaredFields()) {
            boolean isBad = field.toString().equals("public static final int StormPipes.BAD");
            Check.same(field.toString(), isBad || Modifier.isPrivate(field.getModifiers()), true);
            boolean isState = Modifier.isStatic(field.getModifiers()) && !Modifier.isFinal(field.getModifiers());
            Check.same(field + " is no static state", isState, false);
        }
    }

    private static Set<String> names() {
        Set<String> names = new TreeSet<>();
        for (String shape : FACE) {
            names.add(shape.substring(shape.indexOf(' ') + 1, shape.indexOf('(')));
        }
        return names;
    }

    private static String shape(Method method) {
        StringBuilder text = new StringBuilder();
        text.append(method.getReturnType().getSimpleName()).append(' ').append(method.getName()).append('(');
        for (Class<?> parameter : method.getParameterTypes()) {
            text.append(text.charAt(text.length() - 1) == '(' ? "" : ", ").append(parameter.getSimpleName());
        }
        return text.append(')').toString();
    }

    private static void nestedClasses() {
        Set<String> names = names();
        Class<?>[] nested = StormPipes.class.getDeclaredClasses();
        Check.same("some twelve classes at most", nested.length <= 11, true);
        for (Class<?> type : nested) {
            Check.same(type + " is static", Modifier.isStatic(type.getModifiers()), true);
            for (Method method : type.getDeclaredMethods()) {
                Check.same(method + " has a name of its own", names.contains(method.getName()), false);
                Check.same(method + " has few parameters", method.getParameterCount() <= 7, true);
            }
            for (Field field : type.getDeclaredFields()) {
                Check.same(field + " is not static", Modifier.isStatic(field.getModifiers()), false);
            }
        }
    }

    private static void source() throws IOException {
        String text = Files.readString(Path.of("src/main/java/StormPipes.java"));
        String code = text.replaceAll("(?s)/\\*.*?\\*/", "").replaceAll("//[^\n]*", "");
        for (String word : NOT_ALLOWED) {
            String edge = Character.isLetter(word.charAt(0)) ? "\\b" : "";
            Matcher matcher = Pattern.compile(edge + Pattern.quote(word) + edge).matcher(code);
            Check.same("'" + word + "' in the source", matcher.find(), false);
        }
        Matcher imports = Pattern.compile("import ([^;]+);").matcher(code);
        while (imports.find()) {
            Check.same("import " + imports.group(1), imports.group(1).equals("java.util.ArrayList"), true);
        }
    }
}
