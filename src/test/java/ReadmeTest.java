import java.io.IOException;
import java.lang.reflect.Method;
import java.lang.reflect.Modifier;
import java.nio.file.Files;
import java.nio.file.Path;
import javax.tools.ToolProvider;

/** The README's program compiles and prints what the README says; run from the project's folder. */
final class ReadmeTest {
    private static final Checks CHECKS = new Checks();

    public static void main(String[] args) throws IOException, InterruptedException {
        String readme = Files.readString(Path.of("README.md"));
        theProgram(block(readme, "java"), block(readme, "text"));
        everyCallIsNamed(readme);
        everyTestIsNamed(readme);
        CHECKS.end();
    }

    private static String block(String readme, String kind) {
        String begin = "```" + kind + "\n";
        int from = readme.indexOf(begin);
        int to = readme.indexOf("```", from + begin.length());
        if (from < 0 || to < 0) {
            throw new IllegalStateException("README.md has no block of " + kind);
        }
        return readme.substring(from + begin.length(), to);
    }

    private static void theProgram(String program, String output) throws IOException, InterruptedException {
        Path folder = Files.createTempDirectory("readme");
        Path source = folder.resolve("Evening.java");
        Files.writeString(source, program);
        String classes = System.getProperty("java.class.path");
        int compiled = ToolProvider.getSystemJavaCompiler().run(null, null, null,
            "-cp", classes, "-d", folder.toString(), source.toString());
        CHECKS.due("the program compiles", compiled, 0);
        String java = Path.of(System.getProperty("java.home"), "bin", "java").toString();
        Process run = new ProcessBuilder(java, "-cp", classes + ":" + folder, "Evening").redirectErrorStream(true).start();
        String printed = new String(run.getInputStream().readAllBytes());
        CHECKS.due("the program ends", run.waitFor(), 0);
        CHECKS.due("the program prints what is told, but: " + printed, printed.equals(output), true);
        try (var files = Files.list(folder)) {
            for (Path file : files.toList()) {
                Files.delete(file);
            }
        }
        Files.delete(folder);
    }

    private static void everyCallIsNamed(String readme) {
        String calls = readme.substring(readme.indexOf("The calls:"));
        for (Method method : MilkTrain.class.getDeclaredMethods()) {
            if (Modifier.isPublic(method.getModifiers())) {
                CHECKS.due("README names " + method.getName(), calls.contains("`" + method.getName() + "`"), true);
            }
        }
    }

    private static void everyTestIsNamed(String readme) throws IOException {
        try (var files = Files.list(Path.of("src/test/java"))) {
            for (Path file : files.toList()) {
                String name = file.getFileName().toString().replace(".java", "");
                boolean told = !name.endsWith("Test") || readme.contains(name);
                CHECKS.due("README names " + name, told, true);
            }
        }
    }
}
