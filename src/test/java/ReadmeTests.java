import java.net.URL;
import java.net.URLClassLoader;
import java.nio.file.Files;
import java.nio.file.Path;
import java.util.regex.Matcher;
import java.util.regex.Pattern;

/** The example in README.md, compiled and run as it stands there: each line answers what is written behind it. */
public final class ReadmeTests {
    private static final Path MADE = Path.of("build", "readme");
    private static final Pattern BLOCK = Pattern.compile("```java\n(.*?)```", Pattern.DOTALL);
    private static final Pattern LINE = Pattern.compile("(?:int (\\w+) = )?(round\\.\\w+\\(.*\\));\\s+// (-?\\d+): .*");

    private static int wrong = 0;

    public static void main(String[] args) throws Exception {
        Matcher block = BLOCK.matcher(Files.readString(Path.of("README.md")));
        if (!block.find()) fail("README.md has no example");
        StringBuilder checks = new StringBuilder();
        int answers = 0;
        for (String line : block.group(1).split("\n")) {
            Matcher answered = LINE.matcher(line);
            if (!answered.matches()) {
                checks.append(line).append('\n');
                continue;
            }
            answers++;
            String got = answered.group(2);
            if (answered.group(1) != null) {
                checks.append("int ").append(answered.group(1)).append(" = ").append(got).append(";\n");
                got = answered.group(1);
            }
            checks.append("ReadmeTests.due(\"").append(answered.group(2)).append("\", ").append(got).append(", ");
            checks.append(answered.group(3)).append("L);\n");
        }
        run(checks.toString());
        if (answers == 0) fail("the example has no answers");
        if (wrong != 0) fail(wrong + " answers in README.md are not as due");
        System.out.println("the example answers as README.md says, " + answers + " times");
    }

    /** Called by the example once it is compiled. */
    public static void due(String call, long got, long want) {
        if (got == want) return;
        wrong++;
        System.out.println(call + " answered " + got + ", README.md says " + want);
    }

    private static void run(String checks) throws Exception {
        Files.createDirectories(MADE);
        Path source = MADE.resolve("Example.java");
        Files.writeString(source, "public final class Example {\npublic static void run() {\n" + checks + "}\n}\n");
        String path = System.getProperty("java.class.path");
        ProcessBuilder compiler = new ProcessBuilder("javac", "--release", "17", "-cp", path, "-d", MADE.toString(), source.toString());
        if (compiler.inheritIO().start().waitFor() != 0) fail("the example does not compile");
        try (URLClassLoader loader = new URLClassLoader(new URL[] {MADE.toUri().toURL()})) {
            loader.loadClass("Example").getMethod("run").invoke(null);
        }
    }

    private static void fail(String why) {
        System.out.println(why);
        System.exit(1);
    }
}
