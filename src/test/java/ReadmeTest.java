import java.io.File;
import java.lang.reflect.Method;
import java.lang.reflect.Modifier;
import java.nio.file.Files;
import java.nio.file.Path;
import java.util.ArrayList;
import java.util.List;
import java.util.regex.Matcher;
import java.util.regex.Pattern;
import javax.tools.ToolProvider;

/** Runs the example of README.md as it stands there: behind each call is what it answers. */
public final class ReadmeTest {
    private static final Pattern BLOCK = Pattern.compile("(?s)```java\n(.*?)```");
    private static final Pattern ANSWERED = Pattern.compile("(int (\\w+) = )?(.*);\\s+// (\\S+)");

    public static void main(String[] args) throws Exception {
        String readme = Files.readString(Path.of("README.md"));
        List<String> blocks = new ArrayList<>();
        Matcher block = BLOCK.matcher(readme);
        while (block.find()) {
            blocks.add(block.group(1));
        }
        Check.due("README.md: blocks of Java, a method and an example", 2, blocks.size());
        if (blocks.size() == 2) {
            run("public class Example {\n" + blocks.get(0) + "public static void main(String[] args) {\n"
                    + checked(blocks.get(1)) + "Check.end(\"The example of README.md\");\n}\n}\n");
        }
        for (Method method : PostSieve.class.getDeclaredMethods()) {
            if (Modifier.isPublic(method.getModifiers())) {
                Check.due("README.md names " + method.getName(), true, readme.contains("`" + method.getName() + "`"));
            }
        }
        Check.end("ReadmeTest");
    }

    /** Puts a check in place of each call with an answer behind it. */
    private static String checked(String example) {
        StringBuilder code = new StringBuilder();
        for (String line : example.split("\n")) {
            Matcher answered = ANSWERED.matcher(line);
            if (!answered.matches()) {
                code.append(line).append('\n');
                continue;
            }
            boolean isNamed = answered.group(1) != null;
            code.append(isNamed ? line + "\n" : "");
            code.append("Check.due(\"").append(line.replace("\\", "\\\\").replace("\"", "\\\""));
            code.append("\", \"").append(answered.group(4)).append("\", String.valueOf(");
            code.append(isNamed ? answered.group(2) : answered.group(3)).append("));\n");
        }
        return code.toString();
    }

    private static void run(String code) throws Exception {
        File folder = Files.createTempDirectory("readme").toFile();
        Path source = folder.toPath().resolve("Example.java");
        Files.writeString(source, code);
        String classes = System.getProperty("java.class.path");
        int failed = ToolProvider.getSystemJavaCompiler().run(null, null, null, "-encoding", "UTF-8",
                "-classpath", classes, "-d", folder.getPath(), source.toString());
        Check.due("README.md: the example compiles", 0, failed);
        if (failed == 0) {
            String java = Path.of(System.getProperty("java.home"), "bin", "java").toString();
            String[] command = {java, "-cp", classes + File.pathSeparator + folder.getPath(), "Example"};
            Check.due("README.md: the example answers as it says", 0,
                    new ProcessBuilder(command).inheritIO().start().waitFor());
        }
        for (File file : folder.listFiles()) {
            file.delete();
        }
        folder.delete();
    }
}
