import java.lang.reflect.Method;
import java.lang.reflect.Modifier;
import java.net.URL;
import java.net.URLClassLoader;
import java.nio.file.Files;
import java.nio.file.Path;
import java.util.ArrayList;
import java.util.List;
import java.util.regex.Matcher;
import java.util.regex.Pattern;
import javax.tools.ToolProvider;

/** The examples of README.md: each compiles and answers what stands behind its //, and each call is in one. */
public final class ReadmeExamples {
    private static final Pattern BLOCK = Pattern.compile("```java\n(.*?)```", Pattern.DOTALL);
    private static final Pattern ANSWERED = Pattern.compile("(.*\\S) *; *// (-?\\d+|true|false|\"[^\"]*\")(?:$|:.*)");

    /** The blocks that are no helpers, each a method that puts every call, its answer and the due one into a list. */
    private static String classOf(List<String> blocks) {
        StringBuilder helpers = new StringBuilder();
        StringBuilder calls = new StringBuilder();
        for (String block : blocks) {
            if (block.startsWith("static ")) {
                helpers.append(block);
                continue;
            }
            calls.append("{\n");
            for (String line : block.split("\n")) {
                calls.append(statement(line)).append('\n');
            }
            calls.append("}\n");
        }
        return "public final class Examples {\n" + helpers
            + "public static void run(java.util.List<Object[]> all) {\n" + calls + "}\n}\n";
    }

    private static String statement(String line) {
        Matcher answered = ANSWERED.matcher(line);
        if (!answered.matches()) {
            Due.is("a line of README.md, whether it can be read: " + line, line.contains("//"), false);
            return line;
        }
        String call = answered.group(1);
        String shown = call.replace("\\", "\\\\").replace("\"", "\\\"");
        return "all.add(new Object[] {\"" + shown + "\", " + call + ", " + answered.group(2) + "});";
    }

    private static List<Object[]> answers(String source) throws Exception {
        Path folder = Files.createTempDirectory("readme");
        Path file = folder.resolve("Examples.java");
        Files.writeString(file, source);
        int failed = ToolProvider.getSystemJavaCompiler().run(null, null, null,
            "-cp", System.getProperty("java.class.path"), "-d", folder.toString(), file.toString());
        Due.is("javac over README.md", failed, 0);
        List<Object[]> all = new ArrayList<>();
        if (failed == 0) {
            try (URLClassLoader loader = new URLClassLoader(new URL[] {folder.toUri().toURL()})) {
                loader.loadClass("Examples").getMethod("run", List.class).invoke(null, all);
            }
        }
        for (String name : new String[] {"Examples.class", "Examples.java", ""}) {
            Files.deleteIfExists(folder.resolve(name));
        }
        return all;
    }

    public static void main(String[] args) throws Exception {
        Due.by("README.md: each group of calls, with a short example whose answers are right");
        List<String> blocks = new ArrayList<>();
        Matcher matcher = BLOCK.matcher(Files.readString(Path.of("README.md")));
        while (matcher.find()) {
            blocks.add(matcher.group(1));
        }
        for (Object[] answer : answers(classOf(blocks))) {
            Due.is((String) answer[0], answer[1], answer[2]);
        }
        String shown = String.join("", blocks);
        for (Method method : PageWeb.class.getDeclaredMethods()) {
            if (Modifier.isPublic(method.getModifiers())) {
                Due.is("an example of " + method.getName(), shown.contains("web." + method.getName() + "("), true);
            }
        }
        Due.exit();
    }
}
