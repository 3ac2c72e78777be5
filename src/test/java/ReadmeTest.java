import java.io.IOException;
import java.lang.reflect.Method;
import java.lang.reflect.Modifier;
import java.nio.file.Files;
import java.nio.file.Path;
import java.util.ArrayList;
import java.util.Arrays;
import java.util.List;
import java.util.Set;
import java.util.TreeSet;
import java.util.regex.Matcher;
import java.util.regex.Pattern;
import java.util.stream.Stream;

/** What README.md says of an answer is what the class answers; it shows every call and names every test. */
public final class ReadmeTest {
    private static final Path README = Path.of("README.md");
    private static final Pattern MADE = Pattern.compile("RetoldRun x = new RetoldRun\\((-?\\d+)\\);");
    private static final Pattern CALLED = Pattern.compile("(x\\..*\\));\\s*// (-?\\d+|true|false)\\b.*");
    private static final Pattern ROW = Pattern.compile("\\| `(\\w+)\\(([\\w, ]*)\\)` \\|.*");

    private final Set<String> shown = new TreeSet<>();
    private RetoldRun x;
    private String text;
    private int at;

    public static void main(String[] args) throws ReflectiveOperationException, IOException {
        List<String> lines = Files.readAllLines(README);
        new ReadmeTest().example(lines);
        everyCallHasARow(lines);
        everyTestIsNamed(lines);
        Checks.finish(ReadmeTest.class);
    }

    private static Set<String> face() {
        Set<String> names = new TreeSet<>();
        for (Method m : RetoldRun.class.getDeclaredMethods()) {
            if (Modifier.isPublic(m.getModifiers())) {
                names.add(m.getName() + " of " + m.getParameterCount());
            }
        }
        return names;
    }

    private void example(List<String> lines) throws ReflectiveOperationException {
        int first = lines.indexOf("```java") + 1;
        int behind = first + lines.subList(first, lines.size()).indexOf("```");
        Checks.due("there is an example", first > 0 && behind > first, true);
        for (String line : lines.subList(first, behind)) {
            if (!line.isEmpty()) {
                one(line);
            }
        }
        Checks.due("calls that are shown " + shown, shown.equals(face()), true);
    }

    private void one(String line) throws ReflectiveOperationException {
        Matcher made = MADE.matcher(line);
        Matcher called = CALLED.matcher(line);
        if (made.matches()) {
            x = new RetoldRun(Integer.parseInt(made.group(1)));
        } else if (called.matches()) {
            text = called.group(1).replace(" ", "");
            at = 0;
            Object answer = value();
            Checks.due(line + " (it answers " + answer + ")", answer.toString().equals(called.group(2)), true);
            Checks.due(line + " is read to its end", at, text.length());
        } else {
            Checks.due("a line that tells a call and its answer: " + line, false, true);
        }
    }

    /** A number, or a call of x whose arguments are such values themselves. */
    private Object value() throws ReflectiveOperationException {
        if (!text.startsWith("x.", at)) {
            int from = at;
            while (Character.isLetterOrDigit(text.charAt(at)) || text.charAt(at) == '-') {
                at++;
            }
            return Long.decode(text.substring(from, at)).intValue();
        }
        int open = text.indexOf('(', at);
        String name = text.substring(at + 2, open);
        List<Object> arguments = new ArrayList<>();
        at = open + 1;
        while (text.charAt(at) != ')') {
            arguments.add(value());
            at += text.charAt(at) == ',' ? 1 : 0;
        }
        at++;
        shown.add(name + " of " + arguments.size());
        Class<?>[] types = new Class<?>[arguments.size()];
        Arrays.fill(types, int.class);
        return RetoldRun.class.getMethod(name, types).invoke(x, arguments.toArray());
    }

    private static void everyCallHasARow(List<String> lines) {
        Set<String> rows = new TreeSet<>();
        for (String line : lines) {
            Matcher row = ROW.matcher(line);
            if (row.matches()) {
                rows.add(row.group(1) + " of " + (row.group(2).isEmpty() ? 0 : row.group(2).split(",").length));
            }
        }
        Set<String> wanted = face();
        wanted.add("RetoldRun of 1");
        Checks.due("calls in the table " + rows, rows.equals(wanted), true);
    }

    private static void everyTestIsNamed(List<String> lines) throws IOException {
        String all = String.join("\n", lines);
        try (Stream<Path> files = Files.list(Path.of("src/test/java"))) {
            for (Path file : files.sorted().toList()) {
                String name = file.getFileName().toString();
                if (name.endsWith("Test.java")) {
                    String test = "`" + name.replace(".java", "") + "`";
                    Checks.due("README.md names " + test, all.contains(test), true);
                }
            }
        }
        Checks.due("README.md says how to run them", all.contains("`.ci/run`"), true);
    }
}
