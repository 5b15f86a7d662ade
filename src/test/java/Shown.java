import java.io.IOException;
import java.io.StringWriter;
import java.net.URL;
import java.net.URLClassLoader;
import java.nio.file.Files;
import java.nio.file.Path;
import java.util.ArrayList;
import java.util.Comparator;
import java.util.List;
import java.util.regex.Matcher;
import java.util.regex.Pattern;
import java.util.stream.Stream;
import javax.tools.JavaCompiler;
import javax.tools.StandardJavaFileManager;
import javax.tools.ToolProvider;

/**
 * The Java that a text shows between its ```java marks. A block is compiled against the class as it stands and done;
 * each answer must be the one that is written behind it: "// = 40", or "// throws IllegalArgumentException".
 */
final class Shown {
    private static final Pattern ANSWER = Pattern.compile("\\s*(?:int )?(\\w+) = [^;]+;\\s*// = (-?\\w+)(?:,.*)?");
    private static final Pattern REFUSAL = Pattern.compile("\\s*(\\w+\\.[^;]+;)\\s*// throws (\\w+)");
    private static final Pattern CALL_WITH_ANSWER = Pattern.compile(
            ".*\\.(?:word|run|state|register|control|entry)\\(.*");

    private Shown() {
    }

    static List<String> blocks(String text) {
        List<String> blocks = new ArrayList<>();
        StringBuilder block = null;
        for (String line : text.split("\n")) {
            if (block == null) {
                block = line.equals("```java") ? new StringBuilder() : null;
            } else if (line.equals("```")) {
                blocks.add(block.toString());
                block = null;
            } else {
                block.append(line).append('\n');
            }
        }
        if (block != null) {
            blocks.add(block.append("a block that does not end\n").toString());
        }
        return blocks;
    }

    /** What is wrong with a block; nothing if it is right. */
    static String faults(String block) throws IOException, ReflectiveOperationException {
        String unsaid = withoutAnswer(block);
        if (!unsaid.isEmpty()) {
            return unsaid;
        }
        Path folder = Files.createTempDirectory("shown");
        try {
            String refused = compile(folder, block);
            return refused.isEmpty() ? perform(folder) : refused;
        } finally {
            remove(folder);
        }
    }

    /** A call that answers something must say what, or it would be shown unchecked. */
    private static String withoutAnswer(String block) {
        StringBuilder faults = new StringBuilder();
        boolean any = false;
        for (String line : block.split("\n")) {
            boolean said = ANSWER.matcher(line).matches() || REFUSAL.matcher(line).matches();
            any |= said;
            if (!said && CALL_WITH_ANSWER.matcher(line).matches()) {
                faults.append("has no answer that can be compared: ").append(line).append('\n');
            }
        }
        return any ? faults.toString() : "the block shows no answer\n" + faults;
    }

    private static String compile(Path folder, String block) throws IOException {
        JavaCompiler compiler = ToolProvider.getSystemJavaCompiler();
        if (compiler == null) {
            return "this java has no compiler\n";
        }
        Path file = folder.resolve("ShownBlock.java");
        Files.writeString(file, source(block));
        List<String> options = List.of("-d", folder.toString(), "-cp", System.getProperty("java.class.path"));
        StringWriter said = new StringWriter();
        try (StandardJavaFileManager files = compiler.getStandardFileManager(null, null, null)) {
            boolean compiled = compiler.getTask(said, files, null, options, null, files.getJavaFileObjects(file)).call();
            return compiled ? "" : said.toString();
        }
    }

    private static String source(String block) {
        StringBuilder source = new StringBuilder("public final class ShownBlock {\n    public static String faults() {\n");
        source.append("StringBuilder faults = new StringBuilder();\n");
        for (String line : block.split("\n")) {
            source.append(checked(line)).append('\n');
        }
        return source.append("return faults.toString();\n    }\n}\n").toString();
    }

    private static String checked(String line) {
        String shown = "\"" + line.strip().replace("\\", "\\\\").replace("\"", "\\\"");
        Matcher answer = ANSWER.matcher(line);
        if (answer.matches()) {
            String name = answer.group(1);
            return line + "\nif (" + name + " != " + answer.group(2) + ") {\n"
                    + "faults.append(" + shown + " answered \" + " + name + " + '\\n');\n}";
        }
        Matcher refusal = REFUSAL.matcher(line);
        if (refusal.matches()) {
            return "try {\n" + refusal.group(1) + "\nfaults.append(" + shown + " threw nothing\\n\");\n"
                    + "} catch (" + refusal.group(2) + " e) {\n// as it is written\n}";
        }
        return line;
    }

    private static String perform(Path folder) throws IOException, ReflectiveOperationException {
        URL[] where = {folder.toUri().toURL()};
        try (URLClassLoader loader = new URLClassLoader(where, Shown.class.getClassLoader())) {
            return (String) loader.loadClass("ShownBlock").getMethod("faults").invoke(null);
        }
    }

    private static void remove(Path folder) throws IOException {
        try (Stream<Path> paths = Files.walk(folder)) {
            for (Path path : paths.sorted(Comparator.reverseOrder()).toList()) {
                Files.delete(path);
            }
        }
    }
}
