import java.io.ByteArrayOutputStream;
import java.io.File;
import java.io.IOException;
import java.io.PrintStream;
import java.lang.reflect.Method;
import java.lang.reflect.Modifier;
import java.net.URL;
import java.net.URLClassLoader;
import java.nio.charset.StandardCharsets;
import java.nio.file.Files;
import java.nio.file.Path;
import java.util.Comparator;
import java.util.List;
import java.util.regex.Matcher;
import java.util.regex.Pattern;
import java.util.stream.Collectors;
import java.util.stream.Stream;
import javax.tools.ToolProvider;

/** The example of README.md compiles and prints what README.md says, and README.md names every call and every test. */
public final class ReadmeTest {
    private static final Path README = Path.of("README.md");
    private static final Path CLASS = Path.of("src/main/java/BeggarsChoose.java");
    private static final Path TESTS = Path.of("src/test/java");

    public static void main(String[] args) throws Exception {
        String readme = Files.readString(README);
        List<String> due = block(readme, "text").lines().collect(Collectors.toList());
        List<String> printed = printed(block(readme, "java")).lines().collect(Collectors.toList());
        Due.is("lines printed", printed.size(), due.size());
        Due.is("something is printed", printed.isEmpty() ? 0 : 1, 1);
        for (int i = 0; i < due.size() && i < printed.size(); i++) {
            Due.is("«" + due.get(i) + "» is printed and not «" + printed.get(i) + "»", due.get(i).equals(printed.get(i)) ? 1 : 0, 1);
        }
        names(readme);
        Due.end();
    }

    private static String block(String readme, String language) {
        Matcher block = Pattern.compile("```" + language + "\\n(.*?)```", Pattern.DOTALL).matcher(readme);
        return block.find() ? block.group(1) : "";
    }

    private static void names(String readme) throws IOException {
        for (Method call : BeggarsChoose.class.getDeclaredMethods()) {
            if (Modifier.isPublic(call.getModifiers())) {
                Due.is("`" + call.getName() + "` is named", readme.contains("`" + call.getName() + "`") ? 1 : 0, 1);
            }
        }
        try (Stream<Path> files = Files.list(TESTS)) {
            for (Path file : files.collect(Collectors.toList())) {
                String name = file.getFileName().toString().replace(".java", "");
                Due.is("`" + name + "` is named", !name.endsWith("Test") || readme.contains("`" + name + "`") ? 1 : 0, 1);
            }
        }
    }

    /** What the example prints, compiled with the class in a folder of its own. */
    private static String printed(String example) throws Exception {
        Path folder = Files.createTempDirectory("readme");
        try {
            Path file = folder.resolve("Example.java");
            Files.writeString(file, example);
            int wrong = ToolProvider.getSystemJavaCompiler().run(null, null, null, "-encoding", "UTF-8", "-Xlint:all", "-Werror",
                    "-d", folder.toString(), CLASS.toString(), file.toString());
            Due.is("the example compiles", wrong, 0);
            return wrong == 0 ? run(folder) : "";
        } finally {
            try (Stream<Path> files = Files.walk(folder)) {
                files.sorted(Comparator.reverseOrder()).map(Path::toFile).forEach(File::delete);
            }
        }
    }

    private static String run(Path folder) throws Exception {
        PrintStream before = System.out;
        ByteArrayOutputStream printed = new ByteArrayOutputStream();
        try (URLClassLoader loader = new URLClassLoader(new URL[] {folder.toUri().toURL()}, null)) {
            System.setOut(new PrintStream(printed, true, StandardCharsets.UTF_8));
            loader.loadClass("Example").getMethod("main", String[].class).invoke(null, (Object) new String[0]);
        } finally {
            System.setOut(before);
        }
        return printed.toString(StandardCharsets.UTF_8);
    }
}
