import java.io.IOException;
import java.nio.file.Files;
import java.nio.file.Path;
import java.util.List;
import java.util.regex.Matcher;
import java.util.regex.Pattern;

/** Rules of LANGUAGE.md that can be seen in the words of the file. */
public final class LanguageTest {
    private static final int MOST_METHOD_LINES = 60;
    private static final int MOST_PARAMETERS = 7;
    private static final int MOST_CLASSES = 12;
    private static final Pattern METHOD = Pattern.compile("^ {4,8}(?! )[^=;]*\\(([^()]*)\\)[^;=]*\\{$");

    public static void main(String[] args) throws IOException {
        Checks t = new Checks();
        List<String> lines = Files.readAllLines(Path.of("src/main/java/RateBreaks.java"));
        String code = withoutComments(String.join("\n", lines));
        String[] banned = {
            "->", "::", "\\bfinally\\b", "\\bsynchronized\\b", "\\bassert\\b", "\\btry *\\(", "\\bgetMessage\\b",
            "Exact\\(", "\\bSystem\\.(?!arraycopy)", "\\bstatic \\{", "^package ", "\\bprotected\\b", "\\bhashCode\\b",
            "\\bcatch \\((ArrayIndexOutOfBounds|NullPointer|ClassCast|NegativeArraySize|ArrayStore)Exception",
            "\\bcatch \\((Throwable|Exception|Error)\\b", "\\bstatic (?!final)[\\w\\[\\]]+ \\w+( =|;)",
        };
        for (String words : banned) {
            Matcher m = Pattern.compile(words, Pattern.MULTILINE).matcher(code);
            if (m.find()) {
                t.complain("the file has " + m.group());
            }
        }
        Matcher imports = Pattern.compile("^import (.*);$", Pattern.MULTILINE).matcher(code);
        while (imports.find()) {
            if (!imports.group(1).matches("java\\.util\\.(ArrayList|Arrays|Iterator|List|NoSuchElementException)")) {
                t.complain("the file imports " + imports.group(1));
            }
        }
        Matcher thrown = Pattern.compile("\\bthrow\\b[^;]*;").matcher(code);
        while (thrown.find()) {
            if (!thrown.group().matches("throw new \\w+\\((\"[^\"]*\")?\\);")) {
                t.complain("not a written text: " + thrown.group());
            }
        }
        int classes = code.split("\\bclass \\w+").length - 1;
        if (classes > MOST_CLASSES) {
            t.complain(classes + " classes");
        }
        checkMethods(t, lines);
        t.finish();
    }

    private static void checkMethods(Checks t, List<String> lines) {
        int methods = 0;
        for (int i = 0; i < lines.size(); i++) {
            Matcher m = METHOD.matcher(lines.get(i));
            if (!m.matches() || lines.get(i).trim().matches("(if|for|while|switch|\\}).*")) {
                continue;
            }
            methods++;
            String end = lines.get(i).replaceAll("\\S.*", "") + "}";
            int last = i;
            while (!lines.get(last).equals(end)) {
                last++;
            }
            if (last - i + 1 > MOST_METHOD_LINES) {
                t.complain("a long method: " + lines.get(i).trim());
            }
            if (m.group(1).split(",").length > MOST_PARAMETERS) {
                t.complain("many parameters: " + lines.get(i).trim());
            }
        }
        if (methods < 18) {
            t.complain("the test found only " + methods + " methods");
        }
    }

    private static String withoutComments(String code) {
        return code.replaceAll("(?s)/\\*.*?\\*/", "").replaceAll("//[^\n]*", "");
    }
}
