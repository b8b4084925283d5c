import java.io.IOException;
import java.io.OutputStream;
import java.io.PrintStream;
import java.net.URL;
import java.net.URLClassLoader;
import java.nio.file.Files;
import java.nio.file.Path;
import java.util.ArrayList;
import java.util.Comparator;
import java.util.List;
import java.util.regex.Matcher;
import java.util.regex.Pattern;
import java.util.stream.Collectors;
import java.util.stream.Stream;
import javax.tools.ToolProvider;

/**
 * What an object answers after its 512th call is free, so no test may ask it: the tests run here with a WhichBin that
 * counts the calls of each object.
 */
public final class LimitTest {
    private static final int MOST_CALLS = 512;
    private static final int CALLS_OF_THE_FACE = 35;
    private static final List<String> NOT_RUN = List.of("LimitTest", "LanguageTest", "CallsTest", "ReadmeTest");
    private static final Path SOURCE = Path.of("src/main/java/WhichBin.java");

    public static void main(String[] args) throws Exception {
        Path counting = Files.createTempDirectory("limit");
        try {
            compile(counting);
            URL own = LimitTest.class.getProtectionDomain().getCodeSource().getLocation();
            for (String test : tests()) {
                Check.due("the most calls of one object in " + test + ", if beyond " + MOST_CALLS,
                        mostCalls(test, counting, own), 0);
            }
        } finally {
            remove(counting);
        }
        Check.finish("LimitTest");
    }

    private static List<String> tests() throws IOException {
        try (Stream<Path> files = Files.list(Path.of("src/test/java"))) {
            return files.map(file -> file.getFileName().toString().replace(".java", ""))
                    .filter(name -> name.endsWith("Test") && !NOT_RUN.contains(name)).sorted()
                    .collect(Collectors.toList());
        }
    }

    /** Each call of the face begins with a count. */
    private static String counted(String source) {
        Matcher calls = Pattern.compile("(?m)^    public (?:int|boolean) \\w+\\(.*\\) \\{$").matcher(source);
        StringBuilder text = new StringBuilder();
        int found = 0;
        while (calls.find()) {
            calls.appendReplacement(text, "$0 callsSoFar++; mostCalls = Math.max(mostCalls, callsSoFar);");
            found++;
        }
        calls.appendTail(text);
        Check.due("calls of the face", found, CALLS_OF_THE_FACE);
        int end = text.lastIndexOf("}");
        return text.insert(end, "    private int callsSoFar;\n    public static int mostCalls;\n").toString();
    }

    private static void compile(Path into) throws IOException {
        Path file = into.resolve("WhichBin.java");
        Files.writeString(file, counted(Files.readString(SOURCE)));
        int failed = ToolProvider.getSystemJavaCompiler().run(null, null, null, "-d", into.toString(), file.toString());
        Check.due("it does not compile", failed, 0);
    }

    /** 0 if no object was asked too often. */
    private static int mostCalls(String test, Path counting, URL own) throws Exception {
        URL[] places = {counting.toUri().toURL(), own};
        PrintStream out = System.out;
        System.setOut(new PrintStream(OutputStream.nullOutputStream()));
        try (URLClassLoader loader = new URLClassLoader(places, ClassLoader.getPlatformClassLoader())) {
            loader.loadClass(test).getMethod("main", String[].class).invoke(null, (Object) new String[0]);
            int most = loader.loadClass("WhichBin").getField("mostCalls").getInt(null);
            return most > MOST_CALLS ? most : 0;
        } finally {
            System.setOut(out);
        }
    }

    private static void remove(Path directory) throws IOException {
        List<Path> paths = new ArrayList<>();
        try (Stream<Path> all = Files.walk(directory)) {
            all.sorted(Comparator.reverseOrder()).forEach(paths::add);
        }
        for (Path path : paths) {
            Files.delete(path);
        }
    }
}
