import java.lang.reflect.InvocationTargetException;
import java.lang.reflect.Method;
import java.nio.file.Files;
import java.nio.file.Path;
import java.util.Arrays;
import java.util.List;
import java.util.TreeSet;
import java.util.regex.Matcher;
import java.util.regex.Pattern;
import java.util.stream.Collectors;

/** README.md: its example answers as it says, and its table of calls is the public face. */
public final class ReadmeTest {
    private static final Pattern EXAMPLE = Pattern.compile("^x\\.(\\w+)\\((.*)\\); *// ([-\\w]+): .+");
    private static final Pattern CALL = Pattern.compile("^\\| `(\\w+) (\\w+)\\(([^)]*)\\)` \\| (.+) \\| (.*)\\|$");
    private static final Pattern REASON = Pattern.compile("\\b(IAE|IOOBE|NSEE): ");

    public static void main(String[] args) throws Exception {
        List<String> lines = Files.readAllLines(Path.of("README.md"));
        example(lines);
        calls(lines);
        tests(lines);
        Check.end("ReadmeTest");
    }

    private static void example(List<String> lines) throws IllegalAccessException {
        HiredEnemy x = new HiredEnemy();
        int run = 0;
        for (String line : lines) {
            Matcher m = EXAMPLE.matcher(line);
            if (m.find()) {
                Check.same("README: " + line, answer(x, m.group(1), m.group(2)), m.group(3));
                run++;
            } else {
                Check.same("README, a call without an answer: " + line, line.startsWith("x.") ? 1 : 0, 0);
            }
        }
        Check.same("README has an example", run > 10 ? 1 : 0, 1);
    }

    private static String answer(HiredEnemy x, String name, String said) throws IllegalAccessException {
        Object[] arguments = said.isEmpty() ? new Object[0]
            : Arrays.stream(said.split(", ")).map(n -> (Object) Integer.decode(n)).toArray();
        for (Method m : HiredEnemy.class.getMethods()) {
            if (m.getName().equals(name) && m.getParameterCount() == arguments.length) {
                try {
                    return String.valueOf(m.invoke(x, arguments));
                } catch (InvocationTargetException e) {
                    return e.getCause().getClass().getSimpleName();
                }
            }
        }
        return "no such call";
    }

    private static void calls(List<String> lines) {
        TreeSet<String> said = new TreeSet<>();
        for (String line : lines) {
            Matcher m = CALL.matcher(line);
            if (m.find()) {
                String types = Arrays.stream(m.group(3).split(", ")).map(p -> p.split(" ")[0]).collect(Collectors.joining(","));
                StringBuilder call = new StringBuilder(m.group(1) + " " + m.group(2) + "(" + types + ")");
                Matcher reason = REASON.matcher(m.group(5));
                while (reason.find()) {
                    call.append(' ').append(reason.group(1));
                }
                said.add(call.toString());
            }
        }
        Check.same("README tells the face", said.toString(), new TreeSet<>(List.of(FaceTest.FACE)).toString());
    }

    private static void tests(List<String> lines) throws Exception {
        String whole = String.join("\n", lines);
        try (var files = Files.list(Path.of("src/test/java"))) {
            for (Path file : files.toList()) {
                String name = file.getFileName().toString().replace(".java", "");
                if (name.endsWith("Test")) {
                    Check.same("README tells of " + name, whole.contains(name) ? 1 : 0, 1);
                }
            }
        }
    }
}
