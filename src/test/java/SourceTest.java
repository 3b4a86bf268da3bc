import java.nio.file.Files;
import java.nio.file.Path;
import java.util.List;
import java.util.regex.Matcher;
import java.util.regex.Pattern;

/** What of LANGUAGE.md can be seen in the lines of the source. */
public final class SourceTest {
    private static final String[] RULED_OUT = {
        "\\btry\\b", "\\bcatch\\b", "\\bfinally\\b", "->", "::", "\\bassert\\b", "\\bsynchronized\\b", "static \\{", "@\\w", "Exact\\b",
        "\" *\\+", "\\+ *\"", "\\bpackage\\b", "while \\(true\\)", "for \\(;;\\)", "\\bdouble\\b", "\\bfloat\\b", "\\bString\\.format\\b"
    };

    public static void main(String[] args) throws Exception {
        List<String> lines = Files.readAllLines(Path.of("src/main/java/HiredEnemy.java"));
        int classes = 0;
        int from = -1;
        for (int i = 0; i < lines.size(); i++) {
            String line = lines.get(i);
            String code = line.replaceAll("//.*", "").replaceAll("^ *(/\\*\\*|\\*).*", "");
            for (String pattern : RULED_OUT) {
                Check.same("line " + (i + 1) + " has " + pattern, Pattern.compile(pattern).matcher(code).find() + "", "false");
            }
            Check.same("line " + (i + 1) + " has signs 32 to 126 alone", line.chars().allMatch(c -> c >= 32 && c < 127) + "", "true");
            if (code.startsWith("import")) {
                Check.same("an import", code.matches("import java\\.util\\.(Arrays|NoSuchElementException);") + "", "true");
            }
            classes += code.matches(".*\\b(class|interface|enum|record) \\w+.*\\{") ? 1 : 0;
            Matcher method = Pattern.compile("^( {4}| {8})[\\w\\[\\] ]+ \\w+\\(([^)]*)\\).*\\{$").matcher(code);
            if (method.find()) {
                from = i;
                Check.same("parameters at line " + (i + 1), method.group(2).split(",").length > 7 ? 1 : 0, 0);
            }
            if (from >= 0 && (code.equals("    }") || code.equals("        }")) && indent(lines.get(from)) == indent(line)) {
                Check.same("the method at line " + (from + 1) + " is short", i - from > 60 ? 1 : 0, 0);
                from = -1;
            }
        }
        Check.same("classes: " + classes, classes > 12 ? 1 : 0, 0);
        Check.end("SourceTest");
    }

    private static int indent(String line) {
        return line.length() - line.stripLeading().length();
    }
}
