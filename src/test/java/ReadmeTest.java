import java.io.File;
import java.io.IOException;
import java.nio.file.Files;
import java.nio.file.Path;
import java.util.regex.Matcher;
import java.util.regex.Pattern;
import javax.tools.ToolProvider;

/** The examples of README.md, made into one program: each call is compared with the answer behind it. */
public final class ReadmeTest {
    private static final String NAME = "ReadmeExamples";
    private static final Pattern BLOCK = Pattern.compile("```java\n(.*?)```", Pattern.DOTALL);
    private static final Pattern THROWS = Pattern.compile("(.*);\\s*// throws (\\w+)(:.*)?");
    private static final Pattern ANSWERS = Pattern.compile("(.*);\\s*// ([^:]*)(:.*)?");

    private final StringBuilder members = new StringBuilder();
    private final StringBuilder statements = new StringBuilder();

    public static void main(String[] args) throws Exception {
        ReadmeTest examples = new ReadmeTest();
        Matcher blocks = BLOCK.matcher(Files.readString(Path.of("README.md")));
        while (blocks.find()) {
            examples.take(blocks.group(1));
        }
        System.exit(examples.run());
    }

    private void take(String block) {
        if (block.startsWith("static ")) {
            members.append(block);
        } else {
            block.lines().forEach(line -> statements.append(checkOf(line)).append('\n'));
        }
    }

    private static String checkOf(String line) {
        Matcher throwing = THROWS.matcher(line);
        if (throwing.matches()) {
            String call = throwing.group(1);
            return "Check.dueThrow(" + quoted(call) + ", " + throwing.group(2) + ".class, () -> " + call + ");";
        }
        Matcher answering = ANSWERS.matcher(line);
        if (answering.matches()) {
            String call = answering.group(1);
            return "Check.due(" + quoted(call) + ", String.valueOf(" + call + "), " + quoted(answering.group(2)) + ");";
        }
        return line;
    }

    private static String quoted(String text) {
        return '"' + text.replace("\"", "\\\"") + '"';
    }

    /** The exit code of the program, which is not 0 if an answer differs from the one in README.md. */
    private int run() throws IOException, InterruptedException {
        Path folder = Files.createTempDirectory("readme");
        try {
            Path source = Files.writeString(folder.resolve(NAME + ".java"), program());
            String classes = System.getProperty("java.class.path");
            int code = ToolProvider.getSystemJavaCompiler().run(null, null, null,
                "-cp", classes, "-d", folder.toString(), source.toString());
            if (code != 0) {
                System.out.println("the examples of README.md do not compile");
                return 1;
            }
            String java = Path.of(System.getProperty("java.home"), "bin", "java").toString();
            return new ProcessBuilder(java, "-cp", classes + File.pathSeparator + folder, NAME).inheritIO().start().waitFor();
        } finally {
            delete(folder);
        }
    }

    private String program() {
        return "import java.util.NoSuchElementException;\npublic final class " + NAME + " {\n" + members
            + "public static void main(String[] args) {\n" + statements + "Check.end();\n}\n}\n";
    }

    private static void delete(Path folder) throws IOException {
        for (File file : folder.toFile().listFiles()) {
            Files.delete(file.toPath());
        }
        Files.delete(folder);
    }
}
