import java.io.IOException;
import java.lang.reflect.Method;
import java.lang.reflect.Modifier;
import java.nio.file.Files;
import java.nio.file.Path;
import java.util.ArrayList;
import java.util.List;
import java.util.Set;
import java.util.TreeSet;
import java.util.regex.Matcher;
import java.util.regex.Pattern;

/** What can be seen of LANGUAGE.md: the face, the words that it rules out, short methods, few classes. */
public final class LanguageTest {
    private static final String[] RULED_OUT = {"\\bcatch\\b", "\\btry\\b", "\\bfinally\\b", "->", "::",
        "\\bsynchronized\\b", "\\bassert\\b", "\\bSystem\\.(?!arraycopy)", "\\bMath\\.\\w+Exact\\b", "\\bRandom\\b",
        "\\bThread\\b", "\\bhashCode\\b", "\\btoString\\b", "\\bpackage\\b", "\\bprotected\\b", "\\bvar\\b",
        "\\bstatic\\s*\\{", "\\bInteger\\.", "\\bString\\[\\]", "\\bdouble\\b", "\\bfloat\\b", "\"\\s*\\+", "\\+\\s*\""};

    public static void main(String[] args) throws IOException {
        String source = Files.readString(Path.of(System.getProperty("maprun.source", "src/main/java/MapRun.java")));
        face();
        faceAsInTheDocument();
        String code = source.replaceAll("(?s)/\\*.*?\\*/", "").replaceAll("//[^\n]*", "");
        for (String out : RULED_OUT) {
            Matcher m = Pattern.compile(out).matcher(code);
            Check.no("ruled out: " + out, m.find());
        }
        imports(code);
        staticsAreFinal(code);
        Check.yes("at most twelve classes", Pattern.compile("\\bclass \\w+").matcher(code).results().count() <= 12);
        shortMethods(source);
        for (char c : source.toCharArray()) {
            if (c > 127) {
                Check.same("a sign beyond 127", c, 0);
            }
        }
        Check.end();
    }

    private static void face() {
        Check.yes("public final", Modifier.isFinal(MapRun.class.getModifiers()));
        List<String> names = new ArrayList<>();
        Set<String> hidden = new TreeSet<>();
        for (Method m : MapRun.class.getDeclaredMethods()) {
            if (Modifier.isPublic(m.getModifiers())) {
                names.add(m.getName());
            } else {
                Check.yes(m.getName() + " is private", Modifier.isPrivate(m.getModifiers()));
                hidden.add(m.getName());
            }
        }
        Check.same("public methods", names.size(), 31);
        for (Class<?> inner : MapRun.class.getDeclaredClasses()) {
            Check.yes(inner.getName() + " is static", Modifier.isStatic(inner.getModifiers()));
            Check.no(inner.getName() + " is public", Modifier.isPublic(inner.getModifiers()));
            Check.yes(inner.getName() + " has few fields", fields(inner) <= 20);
            for (Method m : inner.getDeclaredMethods()) {
                hidden.add(m.getName());
                Check.yes(m.getName() + " takes few", m.getParameterCount() <= 7);
            }
        }
        Check.yes("few fields", fields(MapRun.class) <= 20);
        for (String name : names) {
            Check.no("also a method of its own: " + name, hidden.contains(name));
        }
    }

    /** Every method as the document writes it: what it takes, what it answers, what it throws. */
    private static void faceAsInTheDocument() throws IOException {
        if (!Files.isReadable(Doc.FILE)) {
            System.out.println(Doc.FILE + " is not here: the face is not held against it");
            return;
        }
        String text = Files.readString(Doc.FILE).replace("\r", "");
        String face = text.substring(text.indexOf("## The public face"), text.indexOf("## Terms"));
        Set<String> due = new TreeSet<>();
        Matcher m = Pattern.compile("public (\\w+) (\\w+)\\(([^)]*)\\)( throws [\\w, ]+)?;").matcher(face);
        while (m.find()) {
            String types = m.group(3).replaceAll(" \\w+(?=,|$)", "");
            due.add(m.group(1) + " " + m.group(2) + "(" + types + ")" + (m.group(4) == null ? "" : m.group(4)));
        }
        Set<String> got = new TreeSet<>();
        for (Method method : MapRun.class.getDeclaredMethods()) {
            if (Modifier.isPublic(method.getModifiers())) {
                got.add(method.getReturnType() + " " + method.getName() + "(" + names(method.getParameterTypes()) + ")"
                        + (method.getExceptionTypes().length == 0 ? "" : " throws " + names(method.getExceptionTypes())));
            }
        }
        Check.yes("the document tells its methods", due.size() >= 31);
        for (String method : due) {
            Check.yes("there is " + method, got.contains(method));
        }
        Check.same("no others", got.size(), due.size());
    }

    private static String names(Class<?>[] classes) {
        List<String> names = new ArrayList<>();
        for (Class<?> c : classes) {
            names.add(c.getSimpleName());
        }
        return String.join(", ", names);
    }

    private static long fields(Class<?> c) {
        long n = 0;
        for (var f : c.getDeclaredFields()) {
            if (!Modifier.isStatic(f.getModifiers())) {
                n++;
            } else {
                Check.yes(f + " is final", Modifier.isFinal(f.getModifiers()));
            }
        }
        return n;
    }

    private static void imports(String code) {
        Matcher m = Pattern.compile("import ([^;]+);").matcher(code);
        while (m.find()) {
            Check.yes("import " + m.group(1),
                    Set.of("java.util.Arrays", "java.util.NoSuchElementException").contains(m.group(1)));
        }
    }

    private static void staticsAreFinal(String code) {
        Matcher m = Pattern.compile("throw new (\\w+)\\(([^;]*)\\);").matcher(code);
        while (m.find()) {
            Check.yes("throws " + m.group(1),
                    Set.of("NoSuchElementException", "IllegalArgumentException").contains(m.group(1)));
            Check.yes("with a written text", m.group(2).matches("\"[^\"]*\""));
        }
    }

    private static void shortMethods(String source) {
        String[] lines = source.split("\n");
        int from = -1;
        for (int i = 0; i < lines.length; i++) {
            if (lines[i].matches(" {4}( {4})?[^ /*}].*\\) *(throws [\\w, ]+)?\\{")) {
                from = i;
            } else if (lines[i].matches(" {4}( {4})?\\}") && from >= 0) {
                Check.yes("line " + (from + 1) + " opens a short method", i - from <= 60);
                from = -1;
            }
        }
    }
}
