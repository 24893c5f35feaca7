import java.io.File;
import java.io.IOException;
import java.lang.reflect.Method;
import java.lang.reflect.Modifier;
import java.net.URL;
import java.net.URLClassLoader;
import java.nio.file.Files;
import java.nio.file.Path;
import java.util.stream.Stream;
import java.util.regex.Matcher;
import java.util.regex.Pattern;
import javax.tools.ToolProvider;

/** What README.md shows as an example answers as README.md says, and it names every call of the face and every test. */
public final class ReadmeTest {
    private static final Pattern BLOCK = Pattern.compile("(?s)```java\n(.*?)```");
    private static final Pattern ANSWERED =
        Pattern.compile("\\s*(car\\.\\w+\\(.*\\));\\s*// (-?\\d+|NONE|UNKNOWN|OUTSIDE|NOT|FULL)(:.*)?");
    private static int wrong = 0;
    private static int answers = 0;

    /** Public, for the examples call it from a class that another loader has. */
    public static void due(String call, int got, int want) {
        answers++;
        claim(got == want, "README.md: " + call + " answered " + got + ", it says " + want);
    }

    private static void claim(boolean so, String what) {
        if (!so) {
            wrong++;
            System.out.println(what);
        }
    }

    /** All examples in their order, as one method in which each call whose answer is told is held to it. */
    private static String program(String readme) {
        StringBuilder b = new StringBuilder("public final class ReadmeExample {\npublic static void run() {\n");
        Matcher blocks = BLOCK.matcher(readme);
        while (blocks.find()) {
            for (String line : blocks.group(1).split("\n")) {
                b.append(heldToItsAnswer(line)).append("\n");
            }
        }
        return b.append("}\n}\n").toString();
    }

    private static String heldToItsAnswer(String line) {
        Matcher m = ANSWERED.matcher(line);
        if (!m.matches()) {
            claim(!line.contains("car.") || line.contains("car.feed("), "README.md does not say what is answered: " + line);
            return line;
        }
        String want = Character.isLetter(m.group(2).charAt(0)) ? "CaptiveCar." + m.group(2) : m.group(2);
        return "ReadmeTest.due(\"" + m.group(1) + "\", " + m.group(1) + ", " + want + ");";
    }

    private static void runExamples(String readme) throws IOException, ReflectiveOperationException {
        Path dir = Files.createTempDirectory("readme");
        Path source = dir.resolve("ReadmeExample.java");
        Path made = dir.resolve("ReadmeExample.class");
        try {
            Files.writeString(source, program(readme));
            int ended = ToolProvider.getSystemJavaCompiler().run(null, null, null, "-cp", System.getProperty("java.class.path"),
                "-d", dir.toString(), source.toString());
            claim(ended == 0, "README.md: the examples are not compiled");
            if (ended == 0) {
                try (URLClassLoader loader = new URLClassLoader(new URL[] {dir.toUri().toURL()}, ReadmeTest.class.getClassLoader())) {
                    loader.loadClass("ReadmeExample").getMethod("run").invoke(null);
                }
            }
        } finally {
            Files.deleteIfExists(made);
            Files.deleteIfExists(source);
            Files.deleteIfExists(dir);
        }
    }

    private static String callOf(Method m) {
        StringBuilder b = new StringBuilder("`").append(m.getName()).append("(");
        return b.append("\\w+, ".repeat(m.getParameterCount())).toString().replaceAll(", $", "").replace("(", "\\(") + "\\)`";
    }

    private static void namesAll(String readme) throws IOException {
        for (Method m : CaptiveCar.class.getDeclaredMethods()) {
            if (Modifier.isPublic(m.getModifiers())) {
                claim(Pattern.compile(callOf(m)).matcher(readme).find(), "README.md does not tell of " + m);
            }
        }
        try (Stream<Path> files = Files.list(Path.of("src/test/java"))) {
            for (Object file : files.toArray()) {
                String name = new File(file.toString()).getName().replace(".java", "");
                claim(readme.contains("`" + name + "`"), "README.md does not tell of the test " + name);
            }
        }
    }

    public static void main(String[] args) throws IOException, ReflectiveOperationException {
        String readme = Files.readString(Path.of("README.md"));
        runExamples(readme);
        namesAll(readme);
        claim(answers >= 40, "README.md: only " + answers + " answers were found");
        System.out.println(answers + " answers of README.md, " + wrong + " wrong");
        if (wrong != 0) {
            System.exit(1);
        }
    }
}
