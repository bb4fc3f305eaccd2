import java.io.IOException;
import java.lang.reflect.Constructor;
import java.lang.reflect.Field;
import java.lang.reflect.Method;
import java.lang.reflect.Modifier;
import java.nio.file.Files;
import java.nio.file.Path;
import java.util.Arrays;
import java.util.HashSet;
import java.util.List;
import java.util.Set;
import java.util.TreeSet;
import java.util.regex.Matcher;
import java.util.regex.Pattern;
import java.util.stream.Collectors;

/** The face as ../shared/DOC.md writes it: each method with its names, types and exceptions, and nothing beside it. */
public final class FaceTest {
    private static final Path DOCUMENT = Path.of("../shared/DOC.md");
    private static final Path SOURCE = Path.of("src/main/java/Bruhatry.java");

    public static void main(String[] args) throws IOException {
        String document = Files.readString(DOCUMENT);
        List<String> face = face(document);
        written(face);
        compiled(face);
        nothingElse();
        promised(document, face);
        Check.end("FaceTest");
    }

    private static String oneLine(String text) {
        return text.replaceAll("\\s+", " ").trim();
    }

    /** The lines of the document's face. */
    private static List<String> face(String document) {
        int from = document.indexOf("```java", document.indexOf("## The public face"));
        String code = document.substring(from, document.indexOf("```", from + 7));
        List<String> face = code.lines().map(String::trim).filter(line -> line.startsWith("public ") && line.endsWith(";"))
                .map(line -> line.substring(0, line.length() - 1)).toList();
        Check.due("lines of the face", face.size(), 51);
        Check.due("the class is in the document", code.contains("public final class Bruhatry {"), true);
        return face;
    }

    /** The source has each line just so, with the names of the arguments. */
    private static void written(List<String> face) throws IOException {
        String source = oneLine(Files.readString(SOURCE));
        for (String line : face) {
            Check.due("written: " + line, source.contains(" " + line + " {"), true);
        }
        Check.due("no package", source.contains("package "), false);
        Check.due("the class", source.contains(" public final class Bruhatry { "), true);
    }

    private static String types(Class<?>[] types) {
        return Arrays.stream(types).map(Class::getSimpleName).collect(Collectors.joining(", "));
    }

    /** A line of the face without the names of its arguments. */
    private static String withoutNames(String line) {
        Matcher matcher = Pattern.compile("\\(([^)]*)\\)").matcher(line);
        return matcher.replaceAll(match -> "(" + match.group(1).replaceAll(" \\w+(?=,|$)", "") + ")");
    }

    private static void compiled(List<String> face) {
        Set<String> wants = new TreeSet<>();
        face.forEach(line -> wants.add(withoutNames(line)));
        Set<String> gots = new TreeSet<>();
        for (Method method : Bruhatry.class.getDeclaredMethods()) {
            if (!Modifier.isPrivate(method.getModifiers())) {
                String thrown = types(method.getExceptionTypes());
                gots.add(Modifier.toString(method.getModifiers()) + " " + method.getReturnType().getSimpleName() + " "
                        + method.getName() + "(" + types(method.getParameterTypes()) + ")"
                        + (thrown.isEmpty() ? "" : " throws " + thrown));
            }
        }
        for (Constructor<?> constructor : Bruhatry.class.getDeclaredConstructors()) {
            gots.add(Modifier.toString(constructor.getModifiers()) + " Bruhatry("
                    + types(constructor.getParameterTypes()) + ")");
        }
        Check.due("compiled", String.join("\n", gots), String.join("\n", wants));
    }

    private static void nothingElse() {
        Class<?> it = Bruhatry.class;
        Check.due("the class is public and final", Modifier.toString(it.getModifiers()), "public final");
        Check.due("it extends nothing", it.getSuperclass(), Object.class);
        Check.due("it implements nothing", it.getInterfaces().length, 0);
        Set<String> names = new HashSet<>();
        for (Field field : it.getDeclaredFields()) {
            Check.due("private: " + field.getName(), Modifier.isPrivate(field.getModifiers()), true);
            Check.due("final if static: " + field.getName(), !Modifier.isStatic(field.getModifiers())
                    || Modifier.isFinal(field.getModifiers()), true);
        }
        for (Method method : it.getDeclaredMethods()) {
            Check.due("one of its name: " + method.getName(), names.add(method.getName()), true);
        }
        for (Class<?> inside : it.getDeclaredClasses()) {
            Check.due("not seen outside: " + inside.getSimpleName(),
                    Modifier.isPublic(inside.getModifiers()) || Modifier.isProtected(inside.getModifiers()), false);
        }
    }

    /** Each promise's own line is that of the face, and tells the same exceptions in the same order. */
    private static void promised(String document, List<String> face) {
        String[] promises = document.substring(0, document.indexOf("## Not promised")).split("## Promise ");
        Check.due("promises", promises.length - 1, 51);
        for (int i = 1; i < promises.length; i++) {
            Matcher line = Pattern.compile("(?m)^`([^`]+)`: ").matcher(promises[i]);
            Check.due("promise " + i + " has a line", line.find() && promises[i].startsWith(i + ": "), true);
            Check.due("promise " + i, face.contains("public " + line.group(1)), true);
            Matcher thrown = Pattern.compile("(?m)^Throws `(\\w+)`").matcher(promises[i]);
            Set<String> names = new java.util.LinkedHashSet<>();
            while (thrown.find()) {
                names.add(thrown.group(1));
            }
            int at = line.group(1).indexOf(" throws ");
            Check.due("promise " + i + " throws", String.join(", ", names),
                    at < 0 ? "" : line.group(1).substring(at + 8));
        }
    }
}
