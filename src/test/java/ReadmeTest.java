import java.io.IOException;
import java.net.URL;
import java.net.URLClassLoader;
import java.nio.file.Files;
import java.nio.file.Path;
import java.util.ArrayList;
import java.util.Comparator;
import java.util.List;
import java.util.regex.Matcher;
import java.util.regex.Pattern;
import java.util.stream.Stream;
import javax.tools.JavaCompiler;
import javax.tools.ToolProvider;

/** The examples of README.md are compiled as they stand there, and each call answers what stands behind it. */
public final class ReadmeTest {
    private static final String NEW_BOOK = "StallBook book = new StallBook();";
    private static final Pattern EXAMPLE = Pattern.compile("^```java\\n(.*?)^```$", Pattern.DOTALL | Pattern.MULTILINE);
    private static final Pattern ROW = Pattern.compile(
        "(int \\w+ = |boolean \\w+ = )?(book\\.(\\w+)\\(.*\\)); +// (true|false|-?\\d+)(: .*)?");

    public static void main(String[] args) throws ReflectiveOperationException, IOException {
        String readme = Files.readString(Path.of("README.md"));
        for (String name : Calls.NAMES) {
            Check.due("README.md names " + name, readme.contains("`" + name + "("), true);
        }
        List<String> examples = new ArrayList<>();
        Matcher found = EXAMPLE.matcher(readme);
        while (found.find()) {
            examples.add(found.group(1));
        }
        Check.due("README.md has examples", examples.size(), 3);
        for (int i = 0; i < examples.size(); i++) {
            makeCalls(program(i, examples.get(i)));
        }
        Check.finish("ReadmeTest");
    }

    /** The example as a class whose main method looks at the answer of each row. */
    private static String program(int number, String example) {
        StringBuilder program = new StringBuilder("public final class Example {\npublic static void main(String[] args) {\n");
        for (String row : example.split("\n")) {
            program.append(row.equals(NEW_BOOK) ? row : checked("example " + number, row)).append('\n');
        }
        return program.append("}\n}\n").toString();
    }

    private static String checked(String example, String row) {
        Matcher parts = ROW.matcher(row);
        boolean isRead = parts.matches();
        Check.due(example + ": '" + row + "' is a call with its answer", isRead, true);
        if (!isRead) {
            return "";
        }
        String call = parts.group(2);
        String answer = parts.group(4);
        String told = "\"README.md, " + example + ": " + call + "\", ";
        if (parts.group(1) == null) {
            return "Check.due(" + told + call + ", " + answer + ");";
        }
        String name = parts.group(1).split(" ")[1];
        return parts.group(1) + call + "; Check.due(" + told + name + ", " + answer + ");";
    }

    private static void makeCalls(String program) throws ReflectiveOperationException, IOException {
        Path folder = Files.createTempDirectory("readme");
        Path source = folder.resolve("Example.java");
        Files.writeString(source, program);
        JavaCompiler compiler = ToolProvider.getSystemJavaCompiler();
        String[] options = {"-cp", System.getProperty("java.class.path"), "-d", folder.toString(), source.toString()};
        boolean isCompiled = compiler.run(null, null, null, options) == 0;
        Check.due("the example compiles", isCompiled, true);
        if (isCompiled) {
            run(folder);
        }
        remove(folder);
    }

    private static void run(Path folder) throws ReflectiveOperationException, IOException {
        try (URLClassLoader loader = new URLClassLoader(new URL[] {folder.toUri().toURL()})) {
            loader.loadClass("Example").getMethod("main", String[].class).invoke(null, (Object) new String[0]);
        }
    }

    private static void remove(Path folder) throws IOException {
        try (Stream<Path> files = Files.walk(folder)) {
            for (Path file : files.sorted(Comparator.reverseOrder()).toList()) {
                Files.delete(file);
            }
        }
    }
}
