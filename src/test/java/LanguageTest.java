import java.io.IOException;
import java.nio.file.Files;
import java.nio.file.Path;
import java.util.ArrayList;
import java.util.List;
import java.util.regex.Matcher;
import java.util.regex.Pattern;

/** The rules of LANGUAGE.md that the source's own words show: no throw, no lambda, short methods, few parameters. */
public final class LanguageTest {
    private static final String[] BARRED = {"\\bthrow\\b", "\\bthrows\\b", "\\btry\\b", "\\bcatch\\b",
        "\\bsynchronized\\b", "\\bassert\\b", "->", "::", "\\bpackage\\b", "\\bprotected\\b", "Exact\\b", "\\bSystem\\.(?!arraycopy)",
        "\\bMath\\.(?!abs|max|min)", "\\bwhile\\b", "\\bthread\\b", "\\brandom\\b", "\\bObject\\b", "\\bequals\\b",
        "\\bhashCode\\b", "\\btoString\\b", "\\bstatic\\s*\\{", "\"", "(?<!final )\\bclass WheelYard\\b"};
    private static final Pattern HEAD = Pattern.compile("^( {4}| {8})(?! )[^;=]*\\(([^)]*)\\) \\{$");

    private static final Checks c = new Checks();

    public static void main(String[] args) throws IOException {
        List<String> lines = new ArrayList<>();
        for (String line : Files.readAllLines(Path.of("src/main/java/WheelYard.java"))) {
            boolean comment = line.strip().startsWith("/*") || line.strip().startsWith("//");
            lines.add(comment ? "" : line);
        }
        words(lines);
        methods(lines);
        c.end();
    }

    private static void words(List<String> lines) {
        int classes = 0;
        for (int i = 0; i < lines.size(); i++) {
            for (String barred : BARRED) {
                c.yes("line " + (i + 1) + " without " + barred, !Pattern.compile(barred).matcher(lines.get(i)).find());
            }
            boolean imports = lines.get(i).startsWith("import ");
            c.yes("line " + (i + 1) + " imports what is listed",
                    !imports || lines.get(i).matches("import java\\.util\\.(Arrays|ArrayList|List);"));
            boolean inner = lines.get(i).matches(" {4}.*\\bclass\\b.*");
            c.yes("line " + (i + 1) + " has a static class", !inner || lines.get(i).contains("private static final class"));
            classes += inner ? 1 : 0;
        }
        c.yes(classes + " classes inside", classes <= 11);
    }

    private static void methods(List<String> lines) {
        for (int i = 0; i < lines.size(); i++) {
            Matcher head = HEAD.matcher(lines.get(i));
            if (!head.find()) {
                continue;
            }
            c.yes("line " + (i + 1) + " has seven parameters at most", head.group(2).split(",").length <= 7);
            int end = i;
            while (!lines.get(end).equals(head.group(1) + "}")) {
                end++;
            }
            c.yes("line " + (i + 1) + " begins a short method", end - i <= 60);
        }
    }
}
