import java.io.ByteArrayOutputStream;
import java.io.IOException;
import java.io.PrintStream;
import java.net.URL;
import java.net.URLClassLoader;
import java.nio.file.Files;
import java.nio.file.Path;
import java.util.ArrayList;
import java.util.List;
import java.util.regex.Matcher;
import java.util.regex.Pattern;
import java.util.stream.Stream;

/** README.md: its example compiles and answers what it tells behind each call, and it names all tests. */
public final class ReadmeTest {
    private ReadmeTest() {
    }

    public static void main(String[] args) throws Exception {
        Checks c = new Checks("ReadmeTest");
        String readme = Files.readString(Path.of("README.md"));
        example(c, readme);
        tests(c, readme);
        c.end();
    }

    private static void example(Checks c, String readme) throws Exception {
        Matcher block = Pattern.compile("(?s)```java\n(.*?)```").matcher(readme);
        c.is("README has an example", true, block::find);
        String code = block.group(1);
        List<String> due = new ArrayList<>();
        Matcher told = Pattern.compile("System\\.out\\.println\\(.*\\); +// ([^:\n]*)").matcher(code);
        while (told.find()) {
            due.add(told.group(1));
        }
        c.is("README tells each answer", code.split("println").length - 1, due::size);
        c.is("README: the answers", String.join(" ", due), () -> answers(code));
    }

    private static String answers(String code) {
        try {
            Path place = Files.createTempDirectory("readme");
            Path file = place.resolve("Example.java");
            Files.writeString(file, code);
            place.toFile().deleteOnExit();
            file.toFile().deleteOnExit();
            place.resolve("Example.class").toFile().deleteOnExit();
            String classes = System.getProperty("java.class.path");
            int result = new ProcessBuilder("javac", "-cp", classes, "-d", place.toString(), file.toString())
                    .inheritIO().start().waitFor();
            return result == 0 ? run(place) : "does not compile";
        } catch (IOException | InterruptedException | ReflectiveOperationException e) {
            return e.toString();
        }
    }

    private static String run(Path place) throws IOException, ReflectiveOperationException {
        PrintStream before = System.out;
        ByteArrayOutputStream printed = new ByteArrayOutputStream();
        try (URLClassLoader loader = new URLClassLoader(new URL[] {place.toUri().toURL()})) {
            System.setOut(new PrintStream(printed, true));
            loader.loadClass("Example").getMethod("main", String[].class).invoke(null, (Object) new String[0]);
        } finally {
            System.setOut(before);
        }
        return printed.toString().trim().replaceAll("\\s+", " ");
    }

    private static void tests(Checks c, String readme) throws IOException {
        try (Stream<Path> files = Files.list(Path.of("src/test/java"))) {
            for (Path file : files.sorted().toList()) {
                String name = file.getFileName().toString().replace(".java", "");
                if (name.endsWith("Test")) {
                    c.is("README names " + name, true, () -> readme.contains("`" + name));
                }
            }
        }
    }
}
