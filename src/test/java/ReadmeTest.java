import java.io.File;
import java.io.IOException;
import java.net.URL;
import java.net.URLClassLoader;
import java.nio.charset.StandardCharsets;
import java.nio.file.Files;
import java.nio.file.Path;
import java.util.ArrayList;
import java.util.List;
import java.util.regex.Matcher;
import java.util.regex.Pattern;
import javax.tools.ToolProvider;

/** The example of README.md answers what its comments tell; it is run in the project's folder. */
public final class ReadmeTest {
    private static final Pattern EXAMPLE = Pattern.compile("(?s)```java\n(.*?)```");
    private static final Pattern LINE = Pattern.compile("(?:int (\\w+) = )?(race\\.\\w+\\([^;]*\\)); +// (-?\\d+): .+");
    private static final String MAKING = "TeaRace race = new TeaRace();";

    private static final List<String> CALLS = new ArrayList<>();
    private static final List<Long> DUE = new ArrayList<>();

    public static void main(String[] args) throws IOException, ReflectiveOperationException {
        Matcher example = EXAMPLE.matcher(Files.readString(Path.of("README.md"), StandardCharsets.UTF_8));
        Check.holds("README.md has an example", example.find());
        long[] answers = answersOf(asProgram(example.group(1)));
        Check.due("answers of the example", answers.length, DUE.size());
        for (int i = 0; i < answers.length; i++) {
            Check.due("README.md: " + CALLS.get(i), answers[i], DUE.get(i));
        }
        Check.close("ReadmeTest");
    }

    /** A program that answers a row of what the lines answer. */
    private static String asProgram(String example) {
        StringBuilder program = new StringBuilder("public class Example { public static long[] answers() {\n" + MAKING + "\n");
        for (String line : example.split("\n")) {
            Matcher m = LINE.matcher(line);
            if (!m.matches()) {
                Check.holds("a line of README.md tells its answer: " + line, line.equals(MAKING));
                continue;
            }
            String answer = "answer" + CALLS.size();
            program.append("long ").append(answer).append(" = ").append(m.group(2)).append(";\n");
            if (m.group(1) != null) {
                program.append("int ").append(m.group(1)).append(" = (int) ").append(answer).append(";\n");
            }
            CALLS.add(m.group(2));
            DUE.add(Long.parseLong(m.group(3)));
        }
        program.append("return new long[] {");
        for (int i = 0; i < CALLS.size(); i++) {
            program.append("answer").append(i).append(", ");
        }
        return program.append("}; } }\n").toString();
    }

    private static long[] answersOf(String program) throws IOException, ReflectiveOperationException {
        Path folder = Files.createTempDirectory("readme");
        try {
            Path file = folder.resolve("Example.java");
            Files.writeString(file, program);
            int failed = ToolProvider.getSystemJavaCompiler().run(null, null, null,
                "-cp", System.getProperty("java.class.path"), "-d", folder.toString(), file.toString());
            Check.due("the example of README.md compiles", failed, 0);
            return failed == 0 ? answersOf(folder) : new long[0];
        } finally {
            for (File file : folder.toFile().listFiles()) {
                file.delete();
            }
            folder.toFile().delete();
        }
    }

    private static long[] answersOf(Path folder) throws IOException, ReflectiveOperationException {
        try (URLClassLoader loader = new URLClassLoader(new URL[] {folder.toUri().toURL()})) {
            return (long[]) loader.loadClass("Example").getMethod("answers").invoke(null);
        }
    }
}
