import java.io.ByteArrayOutputStream;
import java.io.IOException;
import java.io.PrintStream;
import java.net.URL;
import java.net.URLClassLoader;
import java.nio.file.Files;
import java.nio.file.Path;
import java.util.ArrayList;
import java.util.List;
import java.util.regex.Matcher;
import java.util.regex.Pattern;
import java.util.stream.Stream;
import javax.tools.ToolProvider;

/** The examples of README.md: each block of Java prints the block of text that stands behind it; each call is told of. */
public final class ReadmeTest {
    private static final Check CHECK = new Check("ReadmeTest");
    private static final Pattern EXAMPLE = Pattern.compile("```java\n(.*?)```(?:(?!```).)*?```text\n(.*?)```", Pattern.DOTALL);

    public static void main(String[] args) throws Exception {
        String text = Files.readString(Path.of("README.md"));
        examples(text);
        calls(text);
        CHECK.end();
    }

    private static void examples(String text) throws Exception {
        CHECK.part("README.md, examples");
        Matcher found = EXAMPLE.matcher(text);
        int examples = 0;
        while (found.find()) {
            examples++;
            CHECK.dueText("example " + examples, printed("Example" + examples, found.group(1)), found.group(2));
        }
        CHECK.due("there are some", examples > 0 ? 1 : 0, 1);
    }

    /** What some lines of Java print, as the main method of a class of this name. */
    private static String printed(String name, String lines) throws Exception {
        Path folder = Files.createTempDirectory("readme");
        PrintStream before = System.out;
        ByteArrayOutputStream told = new ByteArrayOutputStream();
        try {
            Path file = folder.resolve(name + ".java");
            Files.writeString(file, "public class " + name + " { public static void main(String[] args) {\n" + lines + "} }\n");
            int wrong = ToolProvider.getSystemJavaCompiler().run(null, null, null,
                    "-cp", System.getProperty("java.class.path"), "-d", folder.toString(), file.toString());
            if (wrong != 0) {
                return "does not compile";
            }
            try (URLClassLoader loader = new URLClassLoader(new URL[] {folder.toUri().toURL()})) {
                System.setOut(new PrintStream(told, true));
                loader.loadClass(name).getMethod("main", String[].class).invoke(null, (Object) new String[0]);
            }
            return told.toString().replace("\r\n", "\n");
        } finally {
            System.setOut(before);
            remove(folder);
        }
    }

    private static void remove(Path folder) throws IOException {
        List<Path> files = new ArrayList<>();
        try (Stream<Path> all = Files.list(folder)) {
            all.forEach(files::add);
        }
        for (Path file : files) {
            Files.delete(file);
        }
        Files.delete(folder);
    }

    private static void calls(String text) {
        CHECK.part("README.md, calls");
        for (java.lang.reflect.Method m : DrawLabels.class.getMethods()) {
            if (m.getDeclaringClass() == DrawLabels.class) {
                CHECK.due("tells of " + m.getName(), text.contains("`" + m.getName() + "(") ? 1 : 0, 1);
            }
        }
    }
}
