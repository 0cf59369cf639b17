import java.io.IOException;
import java.lang.reflect.Field;
import java.lang.reflect.Method;
import java.lang.reflect.Modifier;
import java.nio.charset.StandardCharsets;
import java.nio.file.Files;
import java.nio.file.Path;
import java.util.List;

/** README.md is right: its example prints what it says, and it leaves out no call, answer or exception. */
public final class ReadmeTest {
    private static final Path README = Path.of("README.md");
    private static final List<String> EXCEPTIONS =
        List.of("IndexOutOfBoundsException", "ArithmeticException", "IllegalArgumentException");

    public static void main(String[] args) throws Exception {
        String readme = Files.readString(README);
        Check check = new Check();
        check.same("the example", printedBy(block(readme, "java")), block(readme, "text"));
        calls(check, readme);
        answersBelowNothing(check, readme);
        for (String exception : EXCEPTIONS) {
            contains(check, readme, "| `" + exception + "` | ");
        }
        contains(check, readme, "new MetreFractions()");
        contains(check, readme, "\n.ci/run\n");
        check.end("ReadmeTest");
    }

    /** The lines of the first block of this kind. */
    private static String block(String readme, String kind) {
        String opening = "```" + kind + "\n";
        int start = readme.indexOf(opening) + opening.length();
        int end = readme.indexOf("```", start);
        if (start < opening.length() || end < 0) {
            throw new AssertionError("README.md has no block of " + kind);
        }
        return readme.substring(start, end);
    }

    private static String printedBy(String program) throws IOException, InterruptedException {
        Path folder = Files.createTempDirectory("readme");
        Path file = folder.resolve("Example.java");
        try {
            Files.writeString(file, program);
            Path java = Path.of(System.getProperty("java.home"), "bin", "java");
            Process run = new ProcessBuilder(
                java.toString(), "-cp", System.getProperty("java.class.path"), file.toString())
                .redirectError(ProcessBuilder.Redirect.INHERIT).start();
            String printed = new String(run.getInputStream().readAllBytes(), StandardCharsets.UTF_8);
            int code = run.waitFor();
            return code == 0 ? printed.replace("\r\n", "\n") : printed + "exit code " + code;
        } finally {
            Files.deleteIfExists(file);
            Files.deleteIfExists(folder);
        }
    }

    private static void calls(Check check, String readme) {
        for (Method method : MetreFractions.class.getDeclaredMethods()) {
            if (Modifier.isPublic(method.getModifiers())) {
                contains(check, readme, "\n| `" + method.getName() + "(");
            }
        }
    }

    private static void answersBelowNothing(Check check, String readme) throws IllegalAccessException {
        for (Field field : MetreFractions.class.getDeclaredFields()) {
            if (Modifier.isPublic(field.getModifiers())) {
                contains(check, readme, "\n| `" + field.getName() + "` | " + field.getInt(null) + " | ");
            }
        }
    }

    private static void contains(Check check, String readme, String text) {
        check.same("README.md has " + text.strip(), readme.contains(text) ? "yes" : "no", "yes");
    }
}
