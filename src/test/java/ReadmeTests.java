import java.io.ByteArrayOutputStream;
import java.io.IOException;
import java.io.InputStream;
import java.lang.reflect.Method;
import java.lang.reflect.Modifier;
import java.nio.file.Files;
import java.nio.file.Path;
import java.util.regex.Matcher;
import java.util.regex.Pattern;

/** README.md is true: its program prints what it says, and every call and every test stands in it. */
public final class ReadmeTests {
    private static final Path MADE = Path.of("build/readme");

    private static int wrong = 0;

    private static void must(boolean holds, String what) {
        if (!holds) {
            wrong++;
            System.out.println("not so: " + what);
        }
    }

    private static String block(String readme, String language) {
        Matcher block = Pattern.compile("(?s)```" + language + "\n(.*?)```").matcher(readme);
        must(block.find(), "a block of " + language);
        return wrong == 0 ? block.group(1) : "";
    }

    private static String printed(String program) throws IOException, InterruptedException {
        Files.createDirectories(MADE);
        Path source = Files.writeString(MADE.resolve("Example.java"), program);
        outputOf("javac", "-encoding", "UTF-8", "-d", MADE.toString(), "src/main/java/Craterclock.java", source.toString());
        return outputOf("java", "-cp", MADE.toString(), "Example");
    }

    private static String outputOf(String... command) throws IOException, InterruptedException {
        Process run = new ProcessBuilder(command).redirectError(ProcessBuilder.Redirect.INHERIT).start();
        ByteArrayOutputStream all = new ByteArrayOutputStream();
        try (InputStream out = run.getInputStream()) {
            out.transferTo(all);
        }
        must(run.waitFor() == 0, command[0] + " ends with exit code 0");
        return all.toString().replace(System.lineSeparator(), "\n");
    }

    private static void calls(String program) {
        for (Method method : Craterclock.class.getDeclaredMethods()) {
            if (Modifier.isPublic(method.getModifiers())) {
                must(program.contains("clock." + method.getName() + "("), "the program calls " + method.getName());
            }
        }
    }

    private static void tests(String readme, Path directory) {
        String[] files = directory.toFile().list();
        must(files != null, "a directory " + directory);
        for (String file : files == null ? new String[0] : files) {
            if (file.endsWith(".java")) {
                must(readme.contains("`" + file.replace(".java", "") + "`"), "README.md names " + file);
            }
        }
    }

    public static void main(String[] args) throws IOException, InterruptedException {
        String readme = Files.readString(Path.of("README.md"));
        String program = block(readme, "java");
        String due = block(readme, "text");
        if (wrong == 0) {
            String got = printed(program);
            must(got.equals(due), "the program prints\n" + due + "and not\n" + got);
            calls(program);
        }
        tests(readme, Path.of("src/test/java"));
        System.out.println(wrong == 0 ? "README.md is as due" : wrong + " things are not as due");
        if (wrong != 0) {
            System.exit(1);
        }
    }
}
