import java.io.IOException;
import java.nio.file.Files;
import java.nio.file.Path;
import java.util.List;
import java.util.regex.Matcher;
import java.util.regex.Pattern;

/** The rules of the language that can be seen in the source's text, run from the project's folder. */
public final class LanguageTest {
    private static final Path SOURCE = Path.of("src/main/java/TypecheckStation.java");

    /** What the rules leave out, or what this class has no need of. */
    private static final String[] NEVER = {
        "^package\\b", "^import\\b", "->", "::", "\\bcatch\\b", "\\bfinally\\b", "\\bsynchronized\\b",
        "\\bassert\\b", "\\bvar\\b", "\\bObject\\b", "\\bSystem\\.(?!arraycopy)", "\\w+Exact\\b",
        "\\bThread\\b", "\\bstatic \\{", "\\bnative\\b", "\\bvolatile\\b", "\\btransient\\b",
    };

    public static void main(String[] args) throws IOException {
        List<String> lines = Files.readAllLines(SOURCE);
        for (int i = 0; i < lines.size(); i++) {
            String code = lines.get(i).replaceAll("\"[^\"]*\"", "\"\"").replaceAll("//.*|^\\s*/?\\*.*", "");
            for (String never : NEVER) {
                Due.is("line " + (i + 1) + " has " + never, Pattern.compile(never).matcher(code).find(), false);
            }
            Due.is("line " + (i + 1) + " is ASCII", lines.get(i).chars().allMatch(c -> c < 127), true);
            Matcher thrown = Pattern.compile("\\bthrow\\b").matcher(code);
            if (thrown.find()) {
                Due.is("line " + (i + 1) + " throws a text that is written", code.matches(
                        "\\s*throw new (IllegalState|IllegalArgument|IndexOutOfBounds)Exception\\(\"\"\\);"), true);
            }
        }
        methodsAreShort(lines);
        Due.end();
    }

    private static void methodsAreShort(List<String> lines) {
        Pattern head = Pattern.compile("^(    |        )(?! |return|new|else)[\\w\\[\\]. ]+\\(.*");
        int start = -1;
        String indent = "";
        for (int i = 0; i < lines.size(); i++) {
            Matcher matcher = head.matcher(lines.get(i));
            if (start < 0 && matcher.matches() && !lines.get(i).trim().endsWith(";")) {
                start = i;
                indent = matcher.group(1);
            }
            if (start >= 0 && lines.get(i).equals(indent + "}")) {
                Due.is("lines of the method of line " + (start + 1), i - start < 60, true);
                start = -1;
            }
        }
        Due.is("every method ends", start, -1);
    }
}
