import java.io.File;
import java.io.IOException;
import java.lang.reflect.Method;
import java.lang.reflect.Modifier;
import java.nio.file.Files;
import java.nio.file.Path;
import java.util.ArrayList;
import java.util.List;
import java.util.regex.Matcher;
import java.util.regex.Pattern;
import java.util.stream.Stream;
import javax.tools.ToolProvider;

/** The examples of README.md compile as they stand, and answer what their comments say; each method is shown. */
public final class ReadmeTest {
    private static final Pattern EXAMPLE = Pattern.compile("(?s)```java\n(.*?)```");
    private static final Pattern BEGIN = Pattern.compile("Bruhatry \\w+ = new Bruhatry\\(\\);");
    private static final Pattern CALL = Pattern.compile("(?:(\\w+) (\\w+) = )?(\\w+\\.(\\w+)\\(.*\\));\\s+// (.+)");

    public static void main(String[] args) throws IOException, InterruptedException {
        String readme = Files.readString(Path.of("README.md"));
        Path folder = Files.createTempDirectory("readme");
        try {
            examples(readme, folder);
        } finally {
            remove(folder);
        }
        tests(readme);
        Check.end("ReadmeTest");
    }

    private static void remove(Path folder) throws IOException {
        try (Stream<Path> all = Files.walk(folder)) {
            all.sorted((a, b) -> b.compareTo(a)).map(Path::toFile).forEach(File::delete);
        }
    }

    private static void examples(String readme, Path folder) throws IOException, InterruptedException {
        List<String> names = new ArrayList<>();
        StringBuilder program = new StringBuilder("import java.util.NoSuchElementException;\n")
                .append("public final class Examples {\npublic static void main(String[] args) {\n");
        Matcher example = EXAMPLE.matcher(readme);
        int count = 0;
        while (example.find()) {
            program.append("{\n");
            for (String line : example.group(1).split("\n")) {
                program.append(statement(line, names)).append('\n');
            }
            program.append("}\n");
            count++;
        }
        Check.due("examples", count, 6);
        Path source = folder.resolve("Examples.java");
        Files.writeString(source, program.append("Check.end(\"README's examples\");\n}\n}\n").toString());
        int failed = ToolProvider.getSystemJavaCompiler().run(null, null, null, "-cp",
                System.getProperty("java.class.path"), "-d", folder.toString(), source.toString());
        Check.due("README's examples compile", failed, 0);
        Check.due("README's examples answer as it says", failed == 0 ? run(folder) : failed, 0);
        for (Method method : Bruhatry.class.getDeclaredMethods()) {
            if (Modifier.isPublic(method.getModifiers())) {
                Check.due("README shows " + method.getName(), names.contains(method.getName()), true);
            }
        }
    }

    /** The program runs by itself, as one of a reader would. */
    private static int run(Path folder) throws IOException, InterruptedException {
        String java = Path.of(System.getProperty("java.home"), "bin", "java").toString();
        String path = System.getProperty("java.class.path") + File.pathSeparator + folder;
        return new ProcessBuilder(java, "-cp", path, "Examples").inheritIO().start().waitFor();
    }

    /** The line of the example, and behind it what holds the answer against the comment. */
    private static String statement(String line, List<String> names) {
        if (BEGIN.matcher(line).matches()) {
            return line;
        }
        Matcher call = CALL.matcher(line);
        boolean isCall = call.matches();
        Check.due("README tells the answer of: " + line, isCall, true);
        if (!isCall) {
            return "";
        }
        names.add(call.group(4));
        String what = "\"README: " + call.group(3).replace("\\", "\\\\").replace("\"", "\\\"") + "\"";
        String want = call.group(5).split(": ")[0].trim();
        if (want.startsWith("throws ")) {
            String name = want.substring(7);
            return "try { Check.due(" + what + ", \"\" + " + call.group(3) + ", \"" + want + "\"); } catch (" + name
                    + " e) { Check.due(" + what + ", e.getClass().getSimpleName(), \"" + name + "\"); }";
        }
        String got = call.group(2) == null ? call.group(3) : call.group(2);
        String first = call.group(2) == null ? "" : line + "\n";
        return first + "Check.due(" + what + ", \"\" + " + got + ", \"" + want + "\");";
    }

    /** README names each file of the tests, and the script that runs them. */
    private static void tests(String readme) throws IOException {
        String told = readme.substring(readme.indexOf("## How to run the tests"));
        Check.due("README tells how to run the tests", told.contains("\n    .ci/run\n"), true);
        Check.due(".ci/run can be run", Files.isExecutable(Path.of(".ci/run")), true);
        try (Stream<Path> all = Files.list(Path.of("src/test/java"))) {
            for (Path file : all.toList()) {
                String name = file.getFileName().toString().replace(".java", "");
                Check.due("README names " + name, told.contains("`" + name + "`"), true);
            }
        }
        Matcher named = Pattern.compile("`(\\w+Test)`").matcher(readme);
        while (named.find()) {
            Check.due("there is a " + named.group(1),
                    Files.exists(Path.of("src/test/java/" + named.group(1) + ".java")), true);
        }
    }
}
