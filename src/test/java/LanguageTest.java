import java.io.IOException;
import java.nio.file.Files;
import java.nio.file.Path;
import java.util.regex.Matcher;
import java.util.regex.Pattern;

/** What LANGUAGE.md rules out and can be seen in the text of the class; run from the project's directory. */
final class LanguageTest {
    private static final Checks checks = new Checks();
    private static final int MOST_LINES = 60;

    /**
     * A rule's number and what must not be found, with comments and texts taken out. Some of it (while, try) the
     * rules allow in a form that a text search cannot tell; the class needs none of it, so none is let in.
     */
    private static final String[][] RULED_OUT = {
        {"package line", "\\bpackage\\b"},
        {"1: protected", "\\bprotected\\b"},
        {"2: lambda", "->"},
        {"2: method reference", "::"},
        {"3: double or float, which may answer NaN", "\\b(double|float)\\b"},
        {"4: another library", "\\bimport\\s+(?!java\\.util\\.(ArrayList|List);)"},
        {"4: a name of a library", "\\b(java|javax|jdk)\\.(?!util\\.(ArrayList|List);)"},
        {"4: Exact", "Exact\\b"},
        {"5: static block", "\\bstatic\\s*\\{"},
        {"6: try and its like", "\\b(try|catch|finally|synchronized|assert)\\b"},
        {"6: another throw", "\\bthrow\\b(?!\\s+new\\s+(IllegalArgument|IndexOutOfBounds|UnsupportedOperation)"
            + "Exception\\((\"\")?\\);)"},
        {"6: equals and its like", "\\b(equals|hashCode|toString|getClass|getMessage)\\b"},
        {"9: a loop without a counter", "\\b(while|do)\\b|for\\s*\\(\\s*;"},
        {"12: for over a list, which makes an iterator", "\\bfor\\s*\\([^;)]*:[^;)]*\\)"},
        {"13: clock, randomness, file, thread, environment", "\\b(System|Thread|Runtime|Random|Process)\\b"},
    };

    public static void main(String[] args) throws IOException {
        String text = Files.readString(Path.of("src/main/java/BlockLayer.java"));
        String code = withoutCommentsAndTexts(text);
        for (String[] rule : RULED_OUT) {
            Matcher found = Pattern.compile(rule[1]).matcher(code);
            checks.due("rule " + rule[0], "", found.find() ? found.group() : "");
        }
        methodsAreShort(code);
        checks.due("one file", 1, filesOfTheClass());
        checks.finish();
    }

    private static String withoutCommentsAndTexts(String text) {
        String code = text.replaceAll("\"[^\"\n]*\"", "\"\"");
        return code.replaceAll("//[^\n]*", "").replaceAll("(?s)/\\*.*?\\*/", "");
    }

    /** A method of the class begins and ends at 4 spaces, one of a class inside at 8. */
    private static void methodsAreShort(String code) {
        String indent = "    ";
        int begun = 0;
        int methods = 0;
        String[] lines = code.split("\n");
        for (int i = 0; i < lines.length; i++) {
            if (lines[i].matches(" {4}[a-z ]*\\bclass\\b.*\\{")) {
                indent = "        ";
            } else if (lines[i].matches(indent + "[a-zA-Z].*\\).*\\{")) {
                begun = i;
            } else if (lines[i].equals(indent + "}")) {
                methods++;
                checks.due("few lines from " + lines[begun].trim(), 1, i - begun < MOST_LINES ? 1 : 0);
            } else if (lines[i].equals("    }")) {
                indent = "    ";
            }
        }
        checks.due("methods were found", 1, methods >= 40 ? 1 : 0);
    }

    private static int filesOfTheClass() throws IOException {
        try (var files = Files.walk(Path.of("src/main"))) {
            return (int) files.filter(Files::isRegularFile).count();
        }
    }
}
