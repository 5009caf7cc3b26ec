import java.io.ByteArrayOutputStream;
import java.io.File;
import java.io.PrintStream;
import java.net.URL;
import java.net.URLClassLoader;
import java.nio.file.Files;
import java.nio.file.Path;
import java.util.ArrayList;
import java.util.Comparator;
import java.util.List;
import java.util.regex.Matcher;
import java.util.regex.Pattern;
import java.util.stream.Stream;
import javax.tools.ToolProvider;

/** What README.md says is so: its program prints what stands behind each call, and its list of tests is whole. */
public final class ReadmeTest {
    private static final String OPENS = "```java";
    private static final String CLOSES = "```";

    public static void main(String[] args) throws Exception {
        List<String> readme = Files.readAllLines(Path.of("README.md"));
        List<String> program = programIn(readme);
        Path folder = Files.createTempDirectory("readme");
        try {
            Due.same("what the program prints", duePrints(program), printsOf(program, folder));
        } finally {
            removeAll(folder);
        }
        testsAreListed(String.join("\n", readme));
        Due.end();
    }

    private static List<String> programIn(List<String> readme) {
        List<String> program = new ArrayList<>();
        for (String line : readme.subList(readme.indexOf(OPENS) + 1, readme.size())) {
            if (line.equals(CLOSES)) {
                break;
            }
            program.add(line);
        }
        return program;
    }

    /** What a printing line prints stands behind it as a comment, up to the first comma. */
    private static List<String> duePrints(List<String> program) {
        List<String> due = new ArrayList<>();
        for (String line : program) {
            Matcher print = Pattern.compile(".*println\\(.*\\); +// ([^,]+).*").matcher(line);
            if (print.matches()) {
                due.add(print.group(1));
            }
            Due.same("each print tells what it prints: " + line, line.contains("println("), print.matches());
        }
        Due.same("the program prints something", true, due.size() >= 5);
        return due;
    }

    private static List<String> printsOf(List<String> program, Path folder) throws Exception {
        Path file = folder.resolve("Example.java");
        Files.write(file, program);
        ByteArrayOutputStream errors = new ByteArrayOutputStream();
        int result = ToolProvider.getSystemJavaCompiler().run(null, errors, errors, "-d", folder.toString(),
                "src/main/java/Madeham.java", file.toString());
        Due.same("the program compiles: " + errors, 0, result);
        return result == 0 ? run(folder) : List.of();
    }

    private static List<String> run(Path folder) throws Exception {
        PrintStream before = System.out;
        ByteArrayOutputStream printed = new ByteArrayOutputStream();
        try (URLClassLoader loader = new URLClassLoader(new URL[] {folder.toUri().toURL()}, null)) {
            System.setOut(new PrintStream(printed, true));
            loader.loadClass("Example").getMethod("main", String[].class).invoke(null, (Object) new String[0]);
        } finally {
            System.setOut(before);
        }
        return printed.toString().lines().toList();
    }

    private static void removeAll(Path folder) throws Exception {
        try (Stream<Path> all = Files.walk(folder)) {
            all.sorted(Comparator.reverseOrder()).map(Path::toFile).forEach(File::delete);
        }
    }

    private static void testsAreListed(String readme) {
        String[] files = new File("src/test/java").list();
        Due.same("tests are found", true, files != null && files.length > 0);
        for (String file : files) {
            String name = file.replace(".java", "");
            Due.same("README.md tells of " + name, true, readme.contains("`" + name + "`"));
        }
        Matcher told = Pattern.compile("`(\\w+Test)`").matcher(readme);
        while (told.find()) {
            Due.same("there is a " + told.group(1), true, List.of(files).contains(told.group(1) + ".java"));
        }
    }
}
