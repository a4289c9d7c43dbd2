import java.io.IOException;
import java.lang.reflect.InvocationTargetException;
import java.net.URL;
import java.net.URLClassLoader;
import java.nio.file.Files;
import java.nio.file.Path;
import java.util.ArrayList;
import java.util.List;
import java.util.regex.Matcher;
import java.util.regex.Pattern;
import javax.tools.ToolProvider;

/** The examples of README.md compile, and each call answers what the comment behind it says. */
public final class ReadmeTest {
    private static final Pattern CALL = Pattern.compile(
            "(?:int (\\w+) = )?(machine\\.\\w+\\(.*\\)); +// (?:throws (\\w+)|(-?\\d+))(?:: .*)?");

    private final List<String> due = new ArrayList<>();
    private final StringBuilder helpers = new StringBuilder();
    private final StringBuilder calls = new StringBuilder();

    public static void main(String[] args) throws Exception {
        Due title = new Due("the readme");
        ReadmeTest test = new ReadmeTest();
        for (String block : blocksOf(Files.readString(Path.of("README.md")))) {
            test.read(block);
        }
        List<String> got = test.answers();
        title.isTrue("some calls stand there", test.due.size() > 10);
        title.isTrue("each call has answered", got.size() == test.due.size());
        for (int i = 0; i < got.size(); i++) {
            title.isTrue(test.due.get(i) + ", but " + got.get(i), test.due.get(i).endsWith(" // " + got.get(i)));
        }
        title.close();
    }

    private static List<String> blocksOf(String readme) {
        List<String> blocks = new ArrayList<>();
        Matcher matcher = Pattern.compile("```java\n(.*?)```", Pattern.DOTALL).matcher(readme);
        while (matcher.find()) {
            blocks.add(matcher.group(1));
        }
        return blocks;
    }

    private void read(String block) {
        if (block.startsWith("static ")) {
            helpers.append(block);
            return;
        }
        calls.append("{\n");
        for (String line : block.split("\n")) {
            calls.append(asked(line)).append('\n');
        }
        calls.append("}\n");
    }

    /** The line, with its answer kept if it is a call that has one. */
    private String asked(String line) {
        Matcher call = CALL.matcher(line);
        if (!call.matches()) {
            if (line.contains("machine.")) {
                throw new IllegalStateException("no answer is told: " + line);
            }
            return line;
        }
        due.add(call.group(2) + " // " + (call.group(3) == null ? call.group(4) : call.group(3)));
        if (call.group(1) != null) {
            return "int " + call.group(1) + " = " + call.group(2) + "; got.add(\"\" + " + call.group(1) + ");";
        }
        return "try { got.add(\"\" + " + call.group(2) + "); }"
                + " catch (RuntimeException e) { got.add(e.getClass().getSimpleName()); }";
    }

    private List<String> answers() throws IOException, ReflectiveOperationException {
        Path folder = Files.createTempDirectory("readme");
        Path file = folder.resolve("Examples.java");
        try {
            Files.writeString(file, "public final class Examples {\n" + helpers
                    + "public static void run(java.util.List<String> got) {\n" + calls + "}\n}\n");
            int code = ToolProvider.getSystemJavaCompiler().run(null, null, null, "-d", folder.toString(),
                    "-cp", System.getProperty("java.class.path"), file.toString());
            return code == 0 ? run(folder) : new ArrayList<>();
        } finally {
            Files.deleteIfExists(file);
            Files.deleteIfExists(folder.resolve("Examples.class"));
            Files.delete(folder);
        }
    }

    private static List<String> run(Path folder) throws IOException, ReflectiveOperationException {
        List<String> got = new ArrayList<>();
        try (URLClassLoader loader = new URLClassLoader(new URL[] {folder.toUri().toURL()})) {
            loader.loadClass("Examples").getMethod("run", List.class).invoke(null, got);
        } catch (InvocationTargetException e) {
            System.out.println("the examples end by " + e.getCause());
        }
        return got;
    }
}
