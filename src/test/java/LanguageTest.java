import java.nio.charset.StandardCharsets;
import java.nio.file.Files;
import java.nio.file.Path;
import java.util.List;
import java.util.Set;
import java.util.regex.Matcher;
import java.util.regex.Pattern;

/** What of ../shared/LANGUAGE.md can be seen in the text of the class. */
public final class LanguageTest {
    private static final Set<String> LIBRARY = Set.of("System.arraycopy", "Arrays.copyOf", "Arrays.copyOfRange",
            "Arrays.fill", "List.of");
    private static final Set<String> IMPORTS = Set.of("import java.util.NoSuchElementException;",
            "import java.util.ArrayList;", "import java.util.List;", "import java.util.Arrays;",
            "import java.util.Iterator;");
    private static final Set<String> NUMBERS = Set.of("Integer", "Long", "Math");
    private static final String[] NEVER = {"::", "finally", "synchronized", "assert ", "Exact(", "package ", "protected ",
        "static {", "getMessage", "NaN", "System.out", "System.nano", "System.current", "Random", "Thread"};

    public static void main(String[] args) throws Exception {
        Path file = Path.of("src/main/java/Madeham.java");
        List<String> lines = Files.readAllLines(file, StandardCharsets.ISO_8859_1);
        String text = withoutTexts(String.join("\n", lines));
        for (String never : NEVER) {
            Due.same("rule 3 to 10: '" + never + "'", -1, text.indexOf(never));
        }
        imports(lines);
        lambdas(text);
        library(text);
        statics(lines);
        methods(lines);
        parameters(text);
        Due.end();
    }

    private static String withoutTexts(String text) {
        return text.replaceAll("\"[^\"\n]*\"", "").replaceAll("(?s)/\\*.*?\\*/", "").replaceAll("//[^\n]*", "");
    }

    private static void imports(List<String> lines) {
        for (String line : lines) {
            if (line.startsWith("import")) {
                Due.same("rule 4: " + line, true, IMPORTS.contains(line));
            }
        }
    }

    private static void lambdas(String text) {
        for (String line : text.split("\n")) {
            boolean isCase = line.trim().startsWith("case ") || line.trim().startsWith("default ");
            Due.same("rule 2: " + line, true, isCase || !line.contains("->"));
        }
    }

    private static void library(String text) {
        Matcher call = Pattern.compile("\\b(System|Arrays|List|Integer|Long|Math|Float|Double|Objects)\\.(\\w+)\\(")
                .matcher(text);
        while (call.find()) {
            String name = call.group(1) + "." + call.group(2);
            Due.same("rule 4: " + name, true, NUMBERS.contains(call.group(1)) || LIBRARY.contains(name));
        }
    }

    private static void statics(List<String> lines) {
        for (String line : lines) {
            if (line.contains("static ") && line.contains("=")) {
                Due.same("rule 5: " + line, true, line.contains("static final "));
            }
        }
    }

    /** A method begins with a line that opens a body, and ends with the first brace that is as far in. */
    private static void methods(List<String> lines) {
        for (int from = 0; from < lines.size(); from++) {
            Matcher head = Pattern.compile("( {4}| {8})[\\w\\[\\]].*\\).*\\{").matcher(lines.get(from));
            if (head.matches()) {
                int to = from;
                while (to < lines.size() - 1 && !lines.get(to).equals(head.group(1) + "}")) {
                    to++;
                }
                Due.same("rule 11: " + lines.get(from), true, to - from < 70);
            }
        }
    }

    private static void parameters(String text) {
        Matcher list = Pattern.compile("\\w+ \\w+\\(([^()]*)\\)\\s*(throws[^{]*)?\\{").matcher(text);
        int methods = 0;
        while (list.find()) {
            methods++;
            Due.same("rule 11: " + list.group(), true, list.group(1).split(",").length <= 7);
        }
        Due.same("methods are found", true, methods >= 40);
    }
}
