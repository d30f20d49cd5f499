import java.io.IOException;
import java.net.URL;
import java.net.URLClassLoader;
import java.nio.file.Files;
import java.nio.file.Path;
import java.util.ArrayList;
import java.util.List;
import java.util.function.IntSupplier;
import java.util.regex.Matcher;
import java.util.regex.Pattern;
import javax.tools.ToolProvider;

/** The example in README.md compiles, and each of its calls answers the number that stands behind it. */
public final class ReadmeTest {
    private static final Pattern CALL = Pattern.compile("(?:int (\\w+) = )?(desk\\..*); +// (-?\\d+).*");
    private static final Pattern METHOD = Pattern.compile("desk\\.(\\w+)\\(");

    private static final Check CHECK = new Check();

    public static void main(String[] args) throws Exception {
        List<String> example = example();
        everyCallIsInIt(example);
        runs(example);
        CHECK.end("ReadmeTest");
    }

    private static List<String> example() throws IOException {
        List<String> lines = new ArrayList<>();
        boolean inside = false;
        for (String line : Files.readAllLines(Path.of("README.md"))) {
            if (inside && line.equals("```")) {
                return lines;
            }
            if (inside && !line.isBlank()) {
                lines.add(line);
            }
            inside |= line.equals("```java");
        }
        throw new IOException("README.md has no example");
    }

    private static void everyCallIsInIt(List<String> example) {
        List<String> used = new ArrayList<>();
        for (String line : example) {
            Matcher method = METHOD.matcher(line);
            if (method.find()) {
                used.add(method.group(1));
            }
        }
        for (String name : List.of("function", "operation", "name", "apply", "turn", "task", "step", "look", "frame",
                "patches", "target", "body")) {
            CHECK.holds("README.md shows " + name, used.contains(name));
        }
    }

    /** Makes a class whose one answer is the number of the first line that is not as due, or 0. */
    private static String program(List<String> example) {
        StringBuilder text = new StringBuilder("public final class ReadmeExample implements ");
        text.append("java.util.function.IntSupplier {\n  public int getAsInt() {\n");
        for (int i = 0; i < example.size(); i++) {
            String line = example.get(i);
            Matcher call = CALL.matcher(line);
            if (!call.matches()) {
                CHECK.holds("'" + line + "' makes the desk", line.startsWith("PatchDesk desk = new "));
                text.append(line).append('\n');
                continue;
            }
            String answer = call.group(1) == null ? "answer" + i : call.group(1);
            text.append("int ").append(answer).append(" = ").append(call.group(2)).append(";\n");
            text.append("if (").append(answer).append(" != ").append(call.group(3)).append(") return ");
            text.append(i + 1).append(";\n");
        }
        return text.append("return 0;\n  }\n}\n").toString();
    }

    private static void runs(List<String> example) throws Exception {
        Path folder = Files.createTempDirectory("readme");
        Path source = folder.resolve("ReadmeExample.java");
        Path made = folder.resolve("ReadmeExample.class");
        Files.writeString(source, program(example));
        int code = ToolProvider.getSystemJavaCompiler().run(null, null, null, "-cp",
                System.getProperty("java.class.path"), "-d", folder.toString(), source.toString());
        CHECK.is("the example compiles: exit code", code, 0);
        if (code == 0) {
            try (URLClassLoader loader = new URLClassLoader(new URL[] {folder.toUri().toURL()})) {
                Object ready = loader.loadClass("ReadmeExample").getConstructor().newInstance();
                int wrong = ((IntSupplier) ready).getAsInt();
                CHECK.is("the example's first wrong line" + (wrong == 0 ? "" : ", " + example.get(wrong - 1)), wrong, 0);
            }
        }
        Files.deleteIfExists(made);
        Files.delete(source);
        Files.delete(folder);
    }
}
