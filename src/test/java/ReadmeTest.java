import java.io.IOException;
import java.lang.reflect.InvocationTargetException;
import java.lang.reflect.Method;
import java.nio.charset.StandardCharsets;
import java.nio.file.Files;
import java.nio.file.Path;
import java.util.HashMap;
import java.util.Map;
import java.util.regex.Matcher;
import java.util.regex.Pattern;

/** README.md: its example's calls answer what stands behind them, and its table has every call of the face. */
public final class ReadmeTest {
    private static final Pattern CALL = Pattern.compile("x\\.(\\w+)\\((.*)\\); +// (-?\\d+|true|false): .*");

    private static Map<String, Method> face() {
        Map<String, Method> face = new HashMap<>();
        for (Method m : LettersOnStrike.class.getDeclaredMethods()) {
            if ((m.getModifiers() & java.lang.reflect.Modifier.PUBLIC) != 0) {
                face.put(m.getName(), m);
            }
        }
        return face;
    }

    /** What the README writes as an argument: numbers, NONE, bits, true and false. */
    private static Object argument(String written) {
        if (written.equals("true") || written.equals("false")) {
            return written.equals("true");
        }
        int n = 0;
        for (String part : written.split(" \\| ")) {
            String[] shift = part.split(" << ");
            n |= shift.length == 2 ? Integer.parseInt(shift[0]) << Integer.parseInt(shift[1])
                : part.equals("LettersOnStrike.NONE") ? LettersOnStrike.NONE : Integer.decode(part);
        }
        return n;
    }

    private static void example(String block) throws IllegalAccessException, InvocationTargetException {
        LettersOnStrike x = new LettersOnStrike();
        int calls = 0;
        for (String line : block.split("\n")) {
            if (line.startsWith("x.")) {
                Matcher m = CALL.matcher(line);
                Due.due("a call with its answer: " + line, m.matches(), true);
                String[] written = m.group(2).isEmpty() ? new String[0] : m.group(2).split(", ");
                Object[] arguments = new Object[written.length];
                for (int i = 0; i < written.length; i++) {
                    arguments[i] = argument(written[i]);
                }
                String answer = "" + face().get(m.group(1)).invoke(x, arguments);
                Due.due(line + " (" + answer + ")", answer.equals(m.group(3)), true);
                calls++;
            }
        }
        Due.due("calls of the example (" + calls + ")", calls >= 30, true);
    }

    private static void table(String readme) {
        String table = readme.substring(readme.indexOf("| for | calls |"), readme.indexOf("## How the file"));
        for (String name : face().keySet()) {
            Due.due("the table has " + name, table.contains("`" + name + "`"), true);
        }
        Matcher named = Pattern.compile("`(\\w+)`").matcher(table);
        while (named.find()) {
            Due.due("a call of the face: " + named.group(1), face().containsKey(named.group(1)), true);
        }
    }

    /** A test that isn't told of is as good as not there. */
    private static void tests(String readme) throws IOException {
        try (java.util.stream.Stream<Path> files = Files.list(Path.of("src/test/java"))) {
            for (Path file : (Iterable<Path>) files::iterator) {
                String name = file.getFileName().toString().replace(".java", "");
                Due.due("README tells of " + name, readme.contains("`" + name + "`"), true);
            }
        }
    }

    public static void main(String[] args) throws Exception {
        String readme = Files.readString(Path.of("README.md"), StandardCharsets.UTF_8);
        int from = readme.indexOf("```java\n");
        example(readme.substring(from, readme.indexOf("```\n", from)));
        table(readme);
        tests(readme);
        Due.end("ReadmeTest");
    }
}
