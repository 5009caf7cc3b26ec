import java.lang.reflect.Field;
import java.lang.reflect.Modifier;
import java.nio.charset.StandardCharsets;
import java.nio.file.Files;
import java.nio.file.Path;
import java.util.List;
import java.util.Set;
import java.util.regex.Matcher;
import java.util.regex.Pattern;

/** What of ../shared/LANGUAGE.md can be seen in the text of the class. */
public final class LanguageTest {
    private static final Set<String> LIBRARY = Set.of("System.arraycopy", "Arrays.copyOf", "Arrays.copyOfRange",
            "Arrays.fill", "List.of");
    private static final Set<String> IMPORTS = Set.of("import java.util.NoSuchElementException;",
            "import java.util.ArrayList;", "import java.util.List;", "import java.util.Arrays;",
            "import java.util.Iterator;");
    private static final Set<String> NUMBERS = Set.of("Integer", "Long", "Math");
    private static final Set<String> EXCEPTIONS = Set.of("IllegalStateException", "IllegalArgumentException",
            "IndexOutOfBoundsException", "ArithmeticException", "UnsupportedOperationException",
            "NoSuchElementException", "RuntimeException");
    private static final String[] NEVER = {"::", "finally", "synchronized", "assert ", "Exact(", "package ", "protected ",
        "static {", "getMessage", "NaN", "System.out", "System.nano", "System.current", "Random", "Thread"};

    public static void main(String[] args) throws Exception {
        Path file = Path.of("src/main/java/Madeham.java");
        List<String> lines = Files.readAllLines(file, StandardCharsets.ISO_8859_1);
        String text = withoutTexts(String.join("\n", lines));
        for (String never : NEVER) {
            Due.same("rule 3 to 10: '" + never + "'", -1, text.indexOf(never));
        }
        imports(lines);
        lambdas(text);
        library(text);
        statics(lines);
        methods(lines);
        parameters(text);
        exceptions(text);
        joinedTexts(lines);
        loops(text);
        objects(text);
        classes();
        Due.end();
    }

    private static String withoutTexts(String text) {
        return text.replaceAll("\"[^\"\n]*\"", "").replaceAll("(?s)/\\*.*?\\*/", "").replaceAll("//[^\n]*", "");
    }

    private static void imports(List<String> lines) {
        for (String line : lines) {
            if (line.startsWith("import")) {
                Due.same("rule 4: " + line, true, IMPORTS.contains(line));
            }
        }
    }

    private static void lambdas(String text) {
        for (String line : text.split("\n")) {
            boolean isCase = line.trim().startsWith("case ") || line.trim().startsWith("default ");
            Due.same("rule 2: " + line, true, isCase || !line.contains("->"));
        }
    }

    private static void library(String text) {
        Matcher call = Pattern.compile("\\b(System|Arrays|List|Integer|Long|Math|Float|Double|Objects)\\.(\\w+)\\(")
                .matcher(text);
        while (call.find()) {
            String name = call.group(1) + "." + call.group(2);
            Due.same("rule 4: " + name, true, NUMBERS.contains(call.group(1)) || LIBRARY.contains(name));
        }
    }

    private static void statics(List<String> lines) {
        for (String line : lines) {
            if (line.contains("static ") && line.contains("=")) {
                Due.same("rule 5: " + line, true, line.contains("static final "));
            }
        }
    }

    /** A method begins with a line that opens a body, and ends with the first brace that is as far in. */
    private static void methods(List<String> lines) {
        for (int from = 0; from < lines.size(); from++) {
            Matcher head = Pattern.compile("( {4}| {8})[\\w\\[\\]].*\\).*\\{").matcher(lines.get(from));
            if (head.matches()) {
                int to = from;
                while (to < lines.size() - 1 && !lines.get(to).equals(head.group(1) + "}")) {
                    to++;
                }
                Due.same("rule 11: " + lines.get(from), true, to - from < 70);
            }
        }
    }

    private static void parameters(String text) {
        Matcher list = Pattern.compile("\\w+ \\w+\\(([^()]*)\\)\\s*(throws[^{]*)?\\{").matcher(text);
        int methods = 0;
        while (list.find()) {
            methods++;
            Due.same("rule 11: " + list.group(), true, list.group(1).split(",").length <= 7);
        }
        Due.same("methods are found", true, methods >= 40);
    }

    private static void exceptions(String text) {
        Matcher thrown = Pattern.compile("\\bthrow\\b( new (\\w+)\\()?").matcher(text);
        while (thrown.find()) {
            boolean isAllowed = thrown.group(2) != null && EXCEPTIONS.contains(thrown.group(2));
            Due.same("rule 6: " + thrown.group(), true, isAllowed);
        }
        Due.same("rule 6: nothing is caught", -1, text.indexOf("catch"));
    }

    private static void joinedTexts(List<String> lines) {
        for (String line : lines) {
            Due.same("rule 10: " + line, false, line.contains("\" +") || line.contains("+ \""));
        }
    }

    /** Each loop is one with a counter against a bound, or over a row. */
    private static void loops(String text) {
        Due.same("rule 9: no while", false, Pattern.compile("\\b(while|do)\\b").matcher(text).find());
        Matcher loop = Pattern.compile("\\bfor \\(([^\n]*)\\) \\{").matcher(text);
        String counted = "int (\\w+) = [^;]+; [^;]*\\b\\1 <=? [^;]+; \\1(\\+\\+| \\+= \\w+)";
        while (loop.find()) {
            String head = loop.group(1);
            Due.same("rule 9: " + head, true, head.contains(" : ") || head.matches(counted));
        }
    }

    /** Rows and parts are made with the town, so that no call makes an object but an exception. */
    private static void objects(String text) {
        for (String line : text.split("\n")) {
            if (line.contains("new ")) {
                boolean isMadeOnce = line.matches(".* final [\\w\\[\\]]+ \\w+ = new \\w+\\[.*\\];")
                        || line.matches(" {8}\\w+ = new \\w+\\(.*\\);");
                Due.same("rule 12: " + line, true, isMadeOnce || line.contains("throw new "));
            }
        }
    }

    private static void classes() {
        Class<?>[] inside = Madeham.class.getDeclaredClasses();
        Due.same("rule 11: classes", true, inside.length < 12);
        fields(Madeham.class);
        for (Class<?> part : inside) {
            fields(part);
        }
    }

    private static void fields(Class<?> part) {
        int fields = 0;
        for (Field field : part.getDeclaredFields()) {
            if (!Modifier.isStatic(field.getModifiers())) {
                fields++;
                Class<?> type = field.getType().isArray() ? field.getType().getComponentType() : field.getType();
                boolean isOwn = type.getName().startsWith("Madeham$");
                Due.same("rule 3: " + field, true, type.isPrimitive() || isOwn);
            }
        }
        Due.same("rule 11: fields of " + part.getName(), true, fields <= 20);
    }
}
