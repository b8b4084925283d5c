import java.net.URL;
import java.net.URLClassLoader;
import java.nio.file.Files;
import java.nio.file.Path;
import java.util.regex.Matcher;
import java.util.regex.Pattern;
import javax.tools.ToolProvider;

/** README.md's examples are compiled and run: what a line's comment begins with is what is due. */
public final class ReadmeTest {
    private static final Pattern BLOCK = Pattern.compile("(?s)```java\n(.*?)```");
    private static final Pattern ANSWER = Pattern.compile("(?m)^((?:int|boolean) (\\w+) = .*;) +// (-?\\d+|true|false)\\b.*$");

    public static void main(String[] args) throws Exception {
        Matcher blocks = BLOCK.matcher(Files.readString(Path.of("README.md")));
        Check.due("an example", blocks.find(), true);
        String example = blocks.group(1);
        Check.due("answers told", ANSWER.matcher(example).results().count(), 15);
        Check.due("a method for texts", blocks.find(), true);
        run("final class Examples {\n" + blocks.group(1) + "static void run() {\n"
                + ANSWER.matcher(example).replaceAll("$1 Check.due(\"README.md: $2\", $2, $3);")
                + "Check.due(\"a text\", readText(street, \"house a 5 5 own;house b 5 5 two;\"), 0);\n"
                + "Check.due(\"its houses\", street.count(0), 2);\n"
                + "Check.due(\"an empty text\", readText(street, \"\"), 0);\n"
                + "Check.due(\"a text with a fault\", readText(street, \"house a 5 5 own; brown 11;\"), 5);\n"
                + "Check.due(\"its place\", street.place(), 23);\n"
                + "Check.finish(\"README.md's examples\");\n}\n}\n");
        Check.finish("ReadmeTest");
    }

    private static void run(String source) throws Exception {
        Path directory = Files.createTempDirectory("readme");
        Path file = directory.resolve("Examples.java");
        Path compiled = directory.resolve("Examples.class");
        URL own = ReadmeTest.class.getProtectionDomain().getCodeSource().getLocation();
        try {
            Files.writeString(file, source);
            int failed = ToolProvider.getSystemJavaCompiler().run(null, null, null, "-cp", Path.of(own.toURI()).toString(),
                    "-d", directory.toString(), file.toString());
            Check.due("README.md's examples do not compile", failed, 0);
            URL[] places = {directory.toUri().toURL(), own};
            try (URLClassLoader loader = new URLClassLoader(places, ClassLoader.getPlatformClassLoader())) {
                var run = loader.loadClass("Examples").getDeclaredMethod("run");
                run.setAccessible(true);
                run.invoke(null);
            }
        } finally {
            Files.deleteIfExists(compiled);
            Files.deleteIfExists(file);
            Files.delete(directory);
        }
    }
}
