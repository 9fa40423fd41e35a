import java.io.File;
import java.net.URL;
import java.net.URLClassLoader;
import java.nio.file.Files;
import java.nio.file.Path;
import java.util.ArrayList;
import java.util.List;
import java.util.regex.Matcher;
import java.util.regex.Pattern;

/** What README.md says holds: its example answers as told there, and it names all tests and classes that there are. */
public final class ReadmeTest {
    private static final Pattern EXAMPLE = Pattern.compile("```java\n(.*?)```", Pattern.DOTALL);
    private static final Pattern ANSWERED = Pattern.compile("(council\\..*);\\s*// (-?\\d+|'.')(:.*)?");

    private ReadmeTest() {
    }

    public static void main(String[] args) throws Exception {
        String readme = Files.readString(Path.of("README.md"));
        example(readme);
        names(readme);
        Due.end("ReadmeTest");
    }

    private static void example(String readme) throws Exception {
        List<String> calls = new ArrayList<>();
        List<Object> due = new ArrayList<>();
        StringBuilder body = new StringBuilder();
        Matcher block = EXAMPLE.matcher(readme);
        Due.is("README.md has an example", block.find(), true);
        for (String line : block.group(1).split("\n")) {
            Matcher answered = ANSWERED.matcher(line);
            if (answered.matches()) {
                calls.add(answered.group(1));
                due.add(valueOf(answered.group(2)));
                body.append("answers.add(").append(answered.group(1)).append(");\n");
            } else {
                body.append(line).append('\n');
            }
        }
        Due.is("the example tells answers", due.size() > 3, true);
        List<?> answers = run(body.toString());
        for (int i = 0; i < due.size(); i++) {
            Due.is("README.md's " + calls.get(i), answers.get(i), due.get(i));
        }
    }

    private static Object valueOf(String text) {
        return text.startsWith("'") ? (Object) text.charAt(1) : Integer.valueOf(text);
    }

    /** Compiles the example's lines, and answers what they add to their answers. */
    private static List<?> run(String body) throws Exception {
        Path folder = Files.createTempDirectory("readme");
        Path source = folder.resolve("Example.java");
        Path compiled = folder.resolve("Example.class");
        try {
            Files.writeString(source, "public final class Example {\n"
                    + "public static java.util.List<Object> answers() {\n"
                    + "java.util.List<Object> answers = new java.util.ArrayList<>();\n" + body
                    + "return answers;\n}\n}\n");
            int failed = new ProcessBuilder("javac", "-cp", System.getProperty("java.class.path"), "-d",
                    folder.toString(), source.toString()).inheritIO().start().waitFor();
            Due.is("README.md's example compiles", failed, 0);
            try (URLClassLoader loader = new URLClassLoader(new URL[] {folder.toUri().toURL()})) {
                return (List<?>) loader.loadClass("Example").getMethod("answers").invoke(null);
            }
        } finally {
            Files.deleteIfExists(source);
            Files.deleteIfExists(compiled);
            Files.deleteIfExists(folder);
        }
    }

    private static void names(String readme) {
        File[] sources = new File("src/test/java").listFiles();
        Due.is("there are tests", sources != null && sources.length > 0, true);
        for (File source : sources) {
            String name = source.getName().replace(".java", "");
            boolean isNamed = !name.endsWith("Test") || readme.contains("`" + name + "`");
            Due.is("README.md names " + name, isNamed, true);
        }
        for (Class<?> inside : NightfallCouncil.class.getDeclaredClasses()) {
            String name = inside.getSimpleName();
            Due.is("README.md tells what " + name + " holds", readme.contains("\n| `" + name + "` | "), true);
        }
    }
}
