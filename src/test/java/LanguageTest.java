import java.io.IOException;
import java.lang.reflect.Constructor;
import java.lang.reflect.Field;
import java.lang.reflect.Method;
import java.lang.reflect.Modifier;
import java.nio.file.Files;
import java.nio.file.Path;
import java.util.ArrayList;
import java.util.Arrays;
import java.util.List;
import java.util.Set;
import java.util.TreeSet;

/** The rules of LANGUAGE.md that can be seen from outside, and the face of the document. */
public final class LanguageTest {
    private static final String[] FACE = {"int feed(int,int,int,int,int)", "int back(int)", "int read()", "int place()",
        "int house(int,int)", "int night(int)", "int nights(int)", "boolean leaflet(int,boolean)",
        "boolean swap(int,int)", "boolean habit(int,int)", "boolean undo()", "int puts(int,boolean,int)",
        "int chance(int,boolean)", "int street(int,boolean)", "int mean(boolean)", "int pays(boolean)",
        "int tells(int,boolean)", "int herd(int)", "int whom(int)", "int worth(int,boolean)", "int fewest(int)",
        "int bestSwap()", "int hour(int,boolean)", "int bestHour()", "int two()", "int better()", "int rests(int)",
        "int fence(int)", "int year(int,int)", "int tell(int,boolean,int,int,boolean,boolean)", "int forget()",
        "int fits(int,int)", "boolean hold(int)", "boolean restore(int)", "int count(int)"};
    private static final String FORBIDDEN = ".*(\\b(throw|throws|try|catch|synchronized|assert|enum|volatile|transient"
            + "|native|protected|package|float|double|Object|System\\.[^a]\\w*)\\b|->|::).*";
    private static final Set<String> CONSTANTS = new TreeSet<>(Arrays.asList("int", "long", "boolean", "char",
        "java.lang.String", "[I", "[J", "[C", "[B"));

    public static void main(String[] args) throws IOException {
        face();
        for (Class<?> one : classes()) {
            shape(one);
        }
        Check.due("classes", classes().size() <= 12, true);
        source();
        Check.finish("LanguageTest");
    }

    private static List<Class<?>> classes() {
        List<Class<?>> all = new ArrayList<>();
        all.add(WhichBin.class);
        all.addAll(Arrays.asList(WhichBin.class.getDeclaredClasses()));
        return all;
    }

    private static void face() {
        Set<String> found = new TreeSet<>();
        for (Method method : WhichBin.class.getDeclaredMethods()) {
            if (!Modifier.isPrivate(method.getModifiers())) {
                Check.due("public " + method, Modifier.isPublic(method.getModifiers()), true);
                List<String> types = new ArrayList<>();
                for (Class<?> type : method.getParameterTypes()) {
                    types.add(type.getName());
                }
                found.add(method.getReturnType() + " " + method.getName() + "(" + String.join(",", types) + ")");
            }
        }
        Check.due("face " + found, found.equals(new TreeSet<>(Arrays.asList(FACE))), true);
        Check.due("constructors", WhichBin.class.getConstructors().length, 1);
        for (Field field : WhichBin.class.getDeclaredFields()) {
            boolean hidden = Modifier.isPrivate(field.getModifiers());
            Check.due("private " + field, hidden, !field.getName().equals("NONE"));
        }
        Check.due("NONE", WhichBin.NONE, -1);
        Check.due("final", Modifier.isFinal(WhichBin.class.getModifiers()), true);
    }

    private static void shape(Class<?> one) {
        int fields = 0;
        for (Field field : one.getDeclaredFields()) {
            if (Modifier.isStatic(field.getModifiers())) {
                Check.due("final " + field, Modifier.isFinal(field.getModifiers()), true);
                Check.due("constant " + field, CONSTANTS.contains(field.getType().getName()), true);
            } else {
                fields++;
            }
        }
        Check.due("fields of " + one + ": " + fields, fields <= 20, true);
        for (Method method : one.getDeclaredMethods()) {
            Check.due("parameters of " + method, method.getParameterCount() <= 7, true);
            if (!Modifier.isPublic(method.getModifiers())) {
                for (String name : FACE) {
                    Check.due("name of " + method, name.contains(" " + method.getName() + "("), false);
                }
            }
        }
        for (Constructor<?> constructor : one.getDeclaredConstructors()) {
            Check.due("parameters of " + constructor, constructor.getParameterCount() <= 7, true);
        }
        if (one != WhichBin.class) {
            Check.due("static " + one, Modifier.isStatic(one.getModifiers()), true);
            Check.due("hidden " + one, Modifier.isPrivate(one.getModifiers()), true);
            Check.due("no classes in " + one, one.getDeclaredClasses().length, 0);
        }
    }

    private static void source() throws IOException {
        int line = 0;
        int head = 0;
        String methodEnd = "";
        for (String text : Files.readAllLines(Path.of("src/main/java/WhichBin.java"))) {
            line++;
            String code = text.replaceFirst("//.*|^\\s*/?\\*.*", "");
            Check.due("line " + line + ": " + text, code.matches(FORBIDDEN), false);
            if (code.startsWith("import")) {
                Check.due("import", code.equals("import java.util.Arrays;"), true);
            }
            if (code.matches(" {4,8}[A-Za-z].*\\) \\{") && !code.matches("\\s+(if|for|while|switch)\\b.*")
                    && head == 0) {
                head = line;
                methodEnd = code.replaceFirst("[A-Za-z].*", "}");
            } else if (head > 0 && code.equals(methodEnd)) {
                Check.due("lines of the method at line " + head, line - head < 60, true);
                head = 0;
            }
        }
        Check.due("lines", line > 100 && head == 0, true);
    }
}
