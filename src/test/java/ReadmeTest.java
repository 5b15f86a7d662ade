import java.io.IOException;
import java.lang.reflect.Method;
import java.lang.reflect.Modifier;
import java.nio.file.Files;
import java.nio.file.Path;
import java.util.List;
import java.util.regex.Matcher;
import java.util.regex.Pattern;

/** What README.md shows of the class's use compiles and answers as it says; run from the project's folder. */
public final class ReadmeTest {
    private static final Path README = Path.of("README.md");
    private static final Path TESTS = Path.of("src/test/java");

    public static void main(String[] args) throws IOException {
        String text = Files.readString(README);
        Check.sentence("README.md compiles and answers as it says", () -> blocksAreRight(text));
        Check.sentence("README.md shows how to use the class: every call", () -> showsEveryCall(text));
        Check.sentence("README.md says how to run its tests", () -> namesTests(text));
        Check.sentence("what is wrong in a README is found", ReadmeTest::faultsAreFound);
        Check.end();
    }

    private static void blocksAreRight(String text) {
        List<String> blocks = Shown.blocks(text);
        Check.due("blocks of Java, at least one", blocks.isEmpty() ? 0 : 1, 1);
        for (String block : blocks) {
            Check.due("faults of a block", faults(block), 0);
        }
    }

    private static void showsEveryCall(String text) {
        String shown = String.join("\n", Shown.blocks(text));
        for (Method method : TrapMachine.class.getDeclaredMethods()) {
            if (Modifier.isPublic(method.getModifiers())) {
                boolean found = shown.contains("." + method.getName() + "(");
                Check.due("shows " + method.getName(), found ? 1 : 0, 1);
            }
        }
    }

    private static void namesTests(String text) {
        Check.due("names .ci/run", text.contains("\n    .ci/run\n") ? 1 : 0, 1);
        Check.due(".ci/run can be called", Files.isExecutable(Path.of(".ci/run")) ? 1 : 0, 1);
        Matcher names = Pattern.compile("\\b[A-Z]\\w+Test\\b").matcher(text);
        while (names.find()) {
            Check.due(names.group() + " exists", Files.exists(TESTS.resolve(names.group() + ".java")) ? 1 : 0, 1);
        }
    }

    private static void faultsAreFound() {
        String made = "TrapMachine machine = new TrapMachine();\n";
        dueFault("none", made + "int mode = machine.control(0);  // = 8, DIRECT\n", false);
        dueFault("a wrong answer", made + "int mode = machine.control(0);  // = 9, DIRECT\n", true);
        dueFault("a refusal", made + "machine.load(2, 0);  // throws IllegalArgumentException\n", false);
        dueFault("nothing thrown", made + "machine.load(4, 0);  // throws IllegalArgumentException\n", true);
        dueFault("another thing thrown", made + "machine.load(2, 0);  // throws IllegalStateException\n", true);
        dueFault("a call that is not there", made + "int it = machine.mode();  // = 8\n", true);
        dueFault("an answer that is not said", made + "int mode = machine.control(0);\n", true);
        dueFault("no answer at all", made, true);
        Check.due("an end that is missing", Shown.blocks("```java\n" + made).get(0).equals(made) ? 1 : 0, 0);
    }

    private static void dueFault(String what, String block, boolean fault) {
        String found = found(block);
        Check.due("faults found in " + what + " (" + found.strip() + ")", found.isEmpty() ? 0 : 1, fault ? 1 : 0);
    }

    private static int faults(String block) {
        String found = found(block);
        System.out.print(found);
        return found.isEmpty() ? 0 : 1;
    }

    private static String found(String block) {
        try {
            return Shown.faults(block);
        } catch (IOException | ReflectiveOperationException e) {
            return e + " " + e.getCause() + "\n";
        }
    }
}
