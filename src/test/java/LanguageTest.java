import java.io.IOException;
import java.nio.file.Files;
import java.nio.file.Path;
import java.util.ArrayList;
import java.util.HashSet;
import java.util.List;
import java.util.Set;
import java.util.regex.Matcher;
import java.util.regex.Pattern;

/** Those rules of ../shared/LANGUAGE.md that can be seen in the text of the class. */
public final class LanguageTest {
    private static final Pattern METHOD =
            Pattern.compile("^( {4}| {8})((?:public |private |static |final )*+)(?:[\\w\\[\\]]+ )(\\w+)\\((.*)");

    public static void main(String[] args) throws IOException {
        String text = Files.readString(Path.of("src/main/java/Bruhatry.java"));
        String code = text.replaceAll("(?s)/\\*.*?\\*/", "").replaceAll("//[^\n]*", "");
        words(code);
        face(code);
        methods(text.split("\n"));
        Check.end("LanguageTest");
    }

    private static void words(String code) {
        String[] forbidden = {"->", "::", "\\bsynchronized\\b", "\\bassert\\b", "\\bfinally\\b", "\\bcatch\\b", "\\btry\\b",
            "\\bpackage\\b", "\\bprotected\\b", "\\bSystem\\b", "\\bThread\\b", "\\bRandom\\b", "\\bObject\\b",
            "static \\{", "\\bequals\\(", "\\bhashCode\\b", "\\btoString\\b", "Exact\\(", "\\bvar\\b", "\\bnative\\b",
            "\\bfloat\\[", "\\brecord\\b", "\\bMath\\.(?!min|max|abs)", "\\bString\\b"};
        for (String word : forbidden) {
            Check.due("uses of " + word, Pattern.compile(word).matcher(code).results().count(), 0);
        }
        Check.due("imports", code.lines().filter(line -> line.startsWith("import")).toList().toString(),
                "[import java.util.NoSuchElementException;]");
        Check.due("static fields that can change",
                code.lines().filter(line -> line.matches(" +(private )?static (?!final).*[;=].*")
                        && !line.contains("(")).count(), 0);
        int classes = 0;
        Matcher matcher = Pattern.compile("\\bclass \\w+").matcher(code);
        while (matcher.find()) {
            classes++;
        }
        Check.due("at most twelve classes", classes <= 12, true);
        Set<String> exceptions = Set.of("IllegalStateException", "IllegalArgumentException",
                "IndexOutOfBoundsException", "ArithmeticException", "UnsupportedOperationException",
                "NoSuchElementException");
        matcher = Pattern.compile("throw new (\\w+)\\(([^)]*)\\);").matcher(code);
        while (matcher.find()) {
            Check.due("exception " + matcher.group(1), exceptions.contains(matcher.group(1)), true);
        }
    }

    private static void face(String code) {
        Set<String> faces = new HashSet<>();
        List<String> others = new ArrayList<>();
        int publics = 0;
        for (String line : code.split("\n")) {
            Matcher matcher = METHOD.matcher(line);
            if (matcher.find() && !line.trim().startsWith("return") && !line.contains("new ")) {
                if (matcher.group(2).contains("public")) {
                    faces.add(matcher.group(3));
                    publics++;
                } else {
                    others.add(matcher.group(3));
                    Check.due("private: " + line.trim(), !line.startsWith("     ")
                            && !matcher.group(2).contains("private"), false);
                }
            }
        }
        Check.due("the face has as many methods", publics, 50);
        for (String other : others) {
            Check.due("a name of the face: " + other, faces.contains(other), false);
        }
    }

    private static void methods(String[] lines) {
        int start = -1;
        String indent = "";
        for (int i = 0; i < lines.length; i++) {
            Matcher matcher = METHOD.matcher(lines[i]);
            if (start < 0 && matcher.find() && !lines[i].trim().startsWith("return")) {
                start = i;
                indent = matcher.group(1);
                Check.due("at most seven: " + lines[i].trim(), matcher.group(4).split(",").length <= 7, true);
            }
            if (start >= 0 && lines[i].equals(indent + "}")) {
                Check.due("short: " + lines[start].trim(), i - start < 60, true);
                start = -1;
            }
        }
    }
}
