import java.io.IOException;
import java.nio.charset.StandardCharsets;
import java.nio.file.Files;
import java.nio.file.Path;
import java.util.List;
import java.util.regex.Matcher;
import java.util.regex.Pattern;

/** What of shared/LANGUAGE.md can be seen by looking through the source. */
public final class RulesTest {
    private static final Path SOURCE = Path.of("src/main/java/LettersOnStrike.java");
    private static final String[] BANNED = {"throw", "throws", "try", "catch", "finally", "synchronized", "assert",
        "package", "import", "volatile", "transient", "native", "strictfp", "float", "double", "Object", "lambda",
        "hashCode", "equals", "toString", "protected", "yield", "var", "System\\.(?!arraycopy\\b)", "\\w+Exact", "->", "::",
        "new \\w+(<.*>)?\\(.*\\) \\{", "Thread", "Random", "\\\\u", "== \"", "\" \\+", "\\+ \""};

    private static void due(String what, boolean holds) {
        Due.due(what, holds, true);
    }

    private static void words(String code) {
        for (String banned : BANNED) {
            String bounded = (Character.isLetter(banned.charAt(0)) ? "\\b" : "") + banned
                + (Character.isLetter(banned.charAt(banned.length() - 1)) ? "\\b" : "");
            Matcher m = Pattern.compile(bounded).matcher(code);
            due("'" + banned + "' in the source", !m.find());
        }
        for (char c : code.toCharArray()) {
            due("a sign outside 1 .. 127", c >= 1 && c <= 127);
        }
    }

    private static String withoutComments(String source) {
        return source.replaceAll("(?s)/\\*.*?\\*/", "").replaceAll("//[^\n]*", "");
    }

    private static void members(List<String> lines) {
        for (String line : lines) {
            if (line.matches(" {4}\\S.*[{;]") && !line.matches(" {4}[})@].*") && !line.contains("class ")) {
                due("a member that is neither public nor private: " + line, line.matches(" {4}(public|private) .*"));
            }
            if (line.matches(" +(\\w+ )*class .*")) {
                due("an inner class that isn't static: " + line, line.contains("static final class "));
            }
            if (line.matches(".*\\bstatic\\b.*[=;].*") && !line.contains("(") && !line.contains("class ")) {
                due("a static field that isn't final: " + line, line.contains("static final "));
            }
        }
    }

    /** Methods: some sixty lines, seven parameters. */
    private static void methods(List<String> lines) {
        int start = -1;
        String indent = "";
        Pattern head = Pattern.compile("( {4}| {8})(?! )(?!.*\\bclass\\b)[^=]*\\(([^()]*)\\) \\{");
        for (int i = 0; i < lines.size(); i++) {
            Matcher m = head.matcher(lines.get(i));
            if (start < 0 && m.matches()) {
                start = i;
                indent = m.group(1);
                due("parameters: " + lines.get(i), m.group(2).split(",").length <= 7);
            } else if (start >= 0 && lines.get(i).equals(indent + "}")) {
                due("a method of " + (i - start + 1) + " lines: " + lines.get(start), i - start + 1 <= 60);
                start = -1;
            }
        }
        due("a method without an end", start < 0);
    }

    /** All calls of a run live in one room, so what is made is made once: in a constructor, or where a field stands. */
    private static void allocations(List<String> lines) {
        boolean inConstructor = false;
        String end = "";
        for (String line : lines) {
            if (line.matches(" {4,8}(public )?[A-Z]\\w*\\(.*\\) \\{")) {
                inConstructor = true;
                end = line.replaceAll("\\S.*", "}");
            } else if (line.equals(end)) {
                inConstructor = false;
            }
            if (line.matches(".*\\bnew\\b.*")) {
                boolean field = line.matches(" {4,8}(private |static )*final [\\w\\[\\]]+ \\w+ = new .*;");
                due("made by a call: " + line, inConstructor || field);
            }
        }
    }

    /** Some twelve classes, some twenty fields each beside the constants. */
    private static void classesAndFields(List<String> lines) {
        int classes = 0;
        int fields = 0;
        String margin = "    ";
        for (String line : lines) {
            if (line.contains("class ")) {
                classes++;
                fields = 0;
                margin = classes == 1 ? "    " : "        ";
            } else if (line.matches(margin + "(private )?(final )?[\\w\\[\\]]+ \\w+( = .*)?;")) {
                fields++;
                due("a class with " + fields + " fields: " + line, fields <= 20);
            }
        }
        due(classes + " classes", classes <= 13);
    }

    private static void namesOfTheFace(String code) {
        Matcher face = Pattern.compile("\n {4}public \\w+ (\\w+)\\(").matcher(code);
        int n = 0;
        while (face.find()) {
            n++;
            Matcher twin = Pattern.compile("\n +(private )?(static )?[\\w\\[\\]]+ " + face.group(1) + "\\(").matcher(code);
            while (twin.find()) {
                due("a method with the public name " + face.group(1), twin.group().contains("return "));
            }
        }
        Due.due("methods of the face", n, 40);
    }

    public static void main(String[] args) throws IOException {
        String source = Files.readString(SOURCE, StandardCharsets.UTF_8);
        String code = withoutComments(source);
        words(code);
        members(List.of(code.split("\n")));
        methods(List.of(code.split("\n")));
        allocations(List.of(code.split("\n")));
        classesAndFields(List.of(code.split("\n")));
        namesOfTheFace(code);
        Due.end("RulesTest");
    }
}
