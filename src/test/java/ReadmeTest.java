import java.io.IOException;
import java.lang.reflect.Method;
import java.lang.reflect.Modifier;
import java.nio.file.DirectoryStream;
import java.nio.file.Files;
import java.nio.file.Path;
import java.util.HashMap;
import java.util.Map;
import java.util.regex.Matcher;
import java.util.regex.Pattern;

/** README.md: its example answers what stands behind each call there, and every call and every test has a row. */
public final class ReadmeTest {
    private static final Pattern TEXT = Pattern.compile("for \\(char c : \"([^\"]*)\"");
    private static final Pattern CALL = Pattern.compile("^(?:int (\\w+) = )?x\\.(\\w+)\\(([^)]*)\\); +// (-?\\d+): ");

    public static void main(String[] args) throws IOException {
        Checks t = new Checks();
        String readme = Files.readString(Path.of("README.md"));
        checkExample(t, readme);
        for (Method m : RateBreaks.class.getDeclaredMethods()) {
            if (Modifier.isPublic(m.getModifiers()) && !readme.contains("\n| `" + m.getName() + "(")) {
                t.complain("README.md has no row for the call " + m.getName());
            }
        }
        try (DirectoryStream<Path> tests = Files.newDirectoryStream(Path.of("src/test/java"), "*Test.java")) {
            for (Path file : tests) {
                String name = file.getFileName().toString().replace(".java", "");
                if (!readme.contains("\n| `" + name + "` |")) {
                    t.complain("README.md has no row for the test " + name);
                }
            }
        }
        t.finish();
    }

    private static void checkExample(Checks t, String readme) {
        int begin = readme.indexOf("```java\n");
        int end = readme.indexOf("```\n", begin + 1);
        if (begin < 0 || end < 0) {
            t.complain("README.md has no example");
            return;
        }
        Run x = new Run();
        Map<String, Integer> names = new HashMap<>();
        int answers = 0;
        for (String line : readme.substring(begin, end).split("\n")) {
            Matcher text = TEXT.matcher(line);
            if (text.find()) {
                x.tell(text.group(1).replace("\\n", "\n"));
            }
            Matcher m = CALL.matcher(line);
            if (m.find()) {
                String got = call(m.group(2), m.group(3), names).outcome(x);
                t.same("README.md, " + line.trim(), got, m.group(4));
                if (m.group(1) != null) {
                    names.put(m.group(1), Integer.valueOf(m.group(4)));
                }
                answers++;
            } else if (line.matches("(x\\.|int ).*")) {
                t.complain("README.md, " + line + ": the answer does not stand behind it");
            }
        }
        if (answers == 0) {
            t.complain("README.md's example has no calls");
        }
    }

    private static Call call(String name, String words, Map<String, Integer> names) {
        String[] parts = words.isEmpty() ? new String[0] : words.split(", ");
        int[] n = new int[parts.length];
        for (int i = 0; i < n.length; i++) {
            Integer known = names.get(parts[i]);
            n[i] = known == null ? Integer.parseInt(parts[i]) : known;
        }
        return new Call(name, n);
    }
}
