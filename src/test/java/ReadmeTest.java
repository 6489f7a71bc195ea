import java.io.File;
import java.io.IOException;
import java.lang.reflect.Method;
import java.lang.reflect.Modifier;
import java.nio.charset.StandardCharsets;
import java.nio.file.Files;
import java.nio.file.Path;
import java.nio.file.StandardCopyOption;
import java.util.List;
import java.util.regex.Matcher;
import java.util.regex.Pattern;

/** The way in which README.md tells to use the class compiles, runs, and prints what README.md says. */
public final class ReadmeTest {
    private static final Path CLASS = Path.of("src/main/java/Gangline.java");
    private static final Path SCRATCH = Path.of("build/readme");

    private ReadmeTest() {
    }

    public static void main(String[] args) throws IOException, InterruptedException {
        String readme = Files.readString(Path.of("README.md"));
        useRuns(readme);
        callsAreNamed(readme);
        testsAreNamed(readme);
        Check.end("ReadmeTest");
    }

    private static void useRuns(String readme) throws IOException, InterruptedException {
        String program = block(readme, "## Use", "java");
        String commands = block(readme, "## Use", "sh");
        Matcher told = Pattern.compile("Save this beside `src` as `(\\w+\\.java)`").matcher(readme);
        Check.is("README.md tells the name of the program", () -> told.find());
        Check.is("README.md tells the commands", () -> !commands.isEmpty());
        write(told.group(1), program);
        Check.text("what README.md tells prints", run(commands), block(readme, "## Use", "text"));
    }

    private static void write(String name, String program) throws IOException {
        remove(SCRATCH.toFile());
        Path copy = SCRATCH.resolve(CLASS);
        Files.createDirectories(copy.getParent());
        Files.copy(CLASS, copy, StandardCopyOption.REPLACE_EXISTING);
        Files.writeString(SCRATCH.resolve(name), program);
    }

    private static void remove(File file) {
        File[] inside = file.listFiles();
        if (inside != null) {
            for (File one : inside) {
                remove(one);
            }
        }
        file.delete();
    }

    private static String run(String commands) throws IOException, InterruptedException {
        Process process = new ProcessBuilder("bash", "-e", "-c", commands)
            .directory(SCRATCH.toFile()).redirectErrorStream(true).start();
        process.getOutputStream().close();
        String printed = new String(process.getInputStream().readAllBytes(), StandardCharsets.UTF_8);
        Check.same("the commands end with", process.waitFor(), 0);
        return printed;
    }

    /** The first block of this kind below the heading. */
    private static String block(String readme, String heading, String kind) {
        StringBuilder lines = new StringBuilder();
        boolean below = false;
        boolean inside = false;
        for (String line : readme.split("\n")) {
            if (inside && line.equals("```")) {
                return lines.toString();
            }
            if (inside) {
                lines.append(line).append('\n');
            }
            below |= line.equals(heading);
            inside |= below && line.equals("```" + kind);
        }
        return "";
    }

    private static void callsAreNamed(String readme) {
        for (Method method : Gangline.class.getDeclaredMethods()) {
            String name = method.getName();
            if (Modifier.isPublic(method.getModifiers())) {
                Check.is("README.md names " + name, () -> readme.contains("`" + name + "`"));
            }
        }
    }

    private static void testsAreNamed(String readme) {
        String[] files = new File("src/test/java").list();
        for (String file : files == null ? List.<String>of() : List.of(files)) {
            String name = file.endsWith("Test.java") ? file.substring(0, file.length() - ".java".length()) : file;
            Check.is("README.md names " + name, () -> readme.contains("`" + name + "`"));
        }
    }
}
