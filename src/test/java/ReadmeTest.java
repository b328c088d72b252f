import java.io.IOException;
import java.net.URL;
import java.net.URLClassLoader;
import java.nio.file.Files;
import java.nio.file.Path;
import java.util.ArrayList;
import java.util.List;
import java.util.regex.Matcher;
import java.util.regex.Pattern;

/**
 * The examples of README.md: its java blocks become one class, that asks each call and compares the answer told behind
 * it. Runs in the project's own folder, as .ci/run does.
 */
public final class ReadmeTest {
    private static final Pattern BLOCK = Pattern.compile("(?s)```java\n(.*?)```");
    private static final Pattern EXAMPLE = Pattern.compile("(court\\.\\w+\\(.*\\)); +// (-?\\w+)(: .*)?");

    private static final StringBuilder MEMBERS = new StringBuilder();
    private static final StringBuilder CALLS = new StringBuilder();
    private static int examples = 0;
    private static int unread = 0;

    private ReadmeTest() {
    }

    public static void main(String[] args) throws IOException, InterruptedException, ReflectiveOperationException {
        for (String block : blocksOf(Files.readString(Path.of("README.md")))) {
            if (block.startsWith("static ")) {
                MEMBERS.append(block);
            } else {
                for (String line : block.split("\n")) {
                    take(line);
                }
            }
        }
        int wrong = run(examplesAsClass());
        if (wrong != 0 || unread != 0 || examples == 0) {
            System.out.println(wrong + " of " + examples + " examples are wrong, " + unread + " can't be read");
            System.exit(1);
        }
        System.out.println(examples + " examples of README.md are so");
    }

    private static void take(String line) {
        Matcher example = EXAMPLE.matcher(line);
        if (example.matches()) {
            examples++;
            CALLS.append(asked(example.group(1), example.group(2)));
        } else if (line.startsWith("court.")) {
            unread++;
            System.out.println("README.md: no answer is told in this way: " + line);
        } else {
            CALLS.append(line).append('\n');
        }
    }

    private static String asked(String call, String told) {
        return "due(\"" + call.replace("\\", "\\\\").replace("\"", "\\\"") + "\", " + call + ", \"" + told + "\");\n";
    }

    private static String examplesAsClass() {
        return "public final class ReadmeExamples {\npublic static int wrong;\n" + MEMBERS
                + "static void due(String call, Object got, String told) {\nif (!told.equals(String.valueOf(got))) {\nwrong++;\n"
                + "System.out.println(\"README.md: \" + call + \" answers \" + got + \", told is \" + told);\n}\n}\n"
                + "public static void run() {\n" + CALLS + "}\n}\n";
    }

    private static List<String> blocksOf(String page) {
        List<String> blocks = new ArrayList<>();
        Matcher block = BLOCK.matcher(page);
        while (block.find()) {
            blocks.add(block.group(1));
        }
        return blocks;
    }

    /** Compiles the class by the javac that .ci/run takes, runs it, and tells how many answers were wrong. */
    private static int run(String source) throws IOException, InterruptedException, ReflectiveOperationException {
        Path classes = Path.of("build", "readme");
        Path file = classes.resolve("ReadmeExamples.java");
        Files.createDirectories(classes);
        Files.writeString(file, source);
        Process compiling = new ProcessBuilder("javac", "-nowarn", "-cp", System.getProperty("java.class.path"),
                "-d", classes.toString(), file.toString()).inheritIO().start();
        if (compiling.waitFor() != 0) {
            System.out.println("README.md: its examples are no Java");
            return 1;
        }
        URL[] places = {classes.toUri().toURL()};
        try (URLClassLoader loader = new URLClassLoader(places, ReadmeTest.class.getClassLoader())) {
            Class<?> made = loader.loadClass("ReadmeExamples");
            made.getMethod("run").invoke(null);
            return made.getField("wrong").getInt(null);
        }
    }
}
