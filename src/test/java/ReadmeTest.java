import java.lang.reflect.Method;
import java.lang.reflect.Modifier;
import java.net.URL;
import java.net.URLClassLoader;
import java.nio.file.Files;
import java.nio.file.Path;
import java.util.ArrayList;
import java.util.List;
import java.util.function.Supplier;
import java.util.regex.Matcher;
import java.util.regex.Pattern;
import javax.tools.ToolProvider;

/** The Java of README.md is compiled and run, so that the page tells no answer that isn't given. */
public final class ReadmeTest {
    private static final Pattern BLOCK = Pattern.compile("```java\n(.*?)```", Pattern.DOTALL);
    /** A call alone or kept as a number, with the answer that is due behind it. */
    private static final Pattern ANSWERED =
            Pattern.compile("(?:int (\\w+) = )?(run\\.\\w+\\(.*\\)); +// (-?\\d+|true|false)\\b.*");

    private final List<String> calls = new ArrayList<>();
    private final List<String> due = new ArrayList<>();

    public static void main(String[] args) throws Exception {
        String page = Files.readString(Path.of("README.md")).replace("\r", "");
        new ReadmeTest().hold(page);
        callsAreNamed(page);
        Check.end();
    }

    private void hold(String page) throws Exception {
        if (ToolProvider.getSystemJavaCompiler() == null) {
            System.out.println("this java has no compiler within: the page's Java is not run");
            return;
        }
        List<?> got = answersOf(program(page));
        Check.yes("some answers stand there", calls.size() > 20);
        Check.same("calls that were answered", got.size(), calls.size());
        for (int i = 0; i < calls.size() && i < got.size(); i++) {
            Check.yes("README.md: " + calls.get(i) + " answers " + got.get(i) + ", the page says " + due.get(i),
                    got.get(i).toString().equals(due.get(i)));
        }
    }

    /** A class whose get() goes through all blocks of the page and answers what their calls did. */
    private String program(String page) {
        StringBuilder text = new StringBuilder("import java.util.*;\n"
                + "public class Readme implements java.util.function.Supplier<List<Object>> {\n"
                + "public List<Object> get() {\nList<Object> got = new ArrayList<>();\n");
        Matcher block = BLOCK.matcher(page);
        while (block.find()) {
            text.append("{\n");
            for (String line : block.group(1).split("\n")) {
                text.append(keeping(line)).append('\n');
            }
            text.append("}\n");
        }
        return text.append("return got;\n}\n}\n").toString();
    }

    private String keeping(String line) {
        Matcher m = ANSWERED.matcher(line);
        if (!m.matches()) {
            return line;
        }
        calls.add(m.group(2));
        due.add(m.group(3));
        if (m.group(1) == null) {
            return "got.add(" + m.group(2) + ");";
        }
        return "int " + m.group(1) + " = " + m.group(2) + "; got.add(" + m.group(1) + ");";
    }

    private static List<?> answersOf(String program) throws Exception {
        Path dir = Files.createTempDirectory("readme");
        Path source = dir.resolve("Readme.java");
        Path made = dir.resolve("Readme.class");
        try {
            Files.writeString(source, program);
            int failed = ToolProvider.getSystemJavaCompiler().run(null, System.out, System.out, "-proc:none",
                    "-cp", System.getProperty("java.class.path"), "-d", dir.toString(), source.toString());
            Check.same("README.md can't be compiled", failed, 0);
            return failed == 0 ? load(dir).get() : List.of();
        } finally {
            Files.deleteIfExists(source);
            Files.deleteIfExists(made);
            Files.deleteIfExists(dir);
        }
    }

    private static Supplier<List<?>> load(Path dir) throws Exception {
        try (URLClassLoader loader = new URLClassLoader(new URL[] {dir.toUri().toURL()})) {
            Object readme = loader.loadClass("Readme").getDeclaredConstructor().newInstance();
            return () -> (List<?>) ((Supplier<?>) readme).get();
        }
    }

    /** Every call of the face has its place in the page's table. */
    private static void callsAreNamed(String page) {
        for (Method method : MapRun.class.getDeclaredMethods()) {
            if (Modifier.isPublic(method.getModifiers())) {
                Check.yes("README.md names " + method.getName(),
                        Pattern.compile("\\|.*`" + method.getName() + "`.*\\|").matcher(page).find());
            }
        }
    }
}
