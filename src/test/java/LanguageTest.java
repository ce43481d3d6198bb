import java.io.IOException;
import java.lang.reflect.Constructor;
import java.lang.reflect.Field;
import java.lang.reflect.Method;
import java.lang.reflect.Modifier;
import java.nio.file.Files;
import java.nio.file.Path;
import java.util.ArrayList;
import java.util.List;
import java.util.TreeSet;
import java.util.regex.Matcher;
import java.util.regex.Pattern;

/** The document's face, and those rules of LANGUAGE.md that can be looked at from outside. */
public final class LanguageTest {
    private static final Path SOURCE = Path.of("src/main/java/WoolThreads.java");
    private static final Path DOCUMENT = Path.of("../shared/DOC.md");

    public static void main(String[] args) throws IOException {
        String source = Files.readString(SOURCE);
        face(Files.readString(DOCUMENT));
        names();
        fields();
        words(withoutComments(source));
        methods(source);
        constants();
        Check.end("LanguageTest");
    }

    private static String withoutComments(String source) {
        return source.replaceAll("(?s)/\\*.*?\\*/", "").replaceAll("//[^\n]*", "");
    }

    private static String told(Method m) {
        StringBuilder text = new StringBuilder(m.getReturnType() + " " + m.getName());
        for (Class<?> type : m.getParameterTypes()) {
            text.append(' ').append(type);
        }
        for (Class<?> thrown : m.getExceptionTypes()) {
            text.append(' ').append(thrown.getSimpleName());
        }
        return text.toString();
    }

    private static void face(String document) {
        TreeSet<String> want = new TreeSet<>();
        Matcher m = Pattern.compile("public (int) (\\w+)\\(([^)]*)\\)( throws ([^;]*))?;").matcher(document);
        while (m.find()) {
            StringBuilder text = new StringBuilder(m.group(1) + " " + m.group(2));
            for (String parameter : m.group(3).isEmpty() ? new String[0] : m.group(3).split(", ")) {
                text.append(' ').append(parameter.split(" ")[0]);
            }
            if (m.group(5) != null) {
                text.append(' ').append(m.group(5).replace(",", ""));
            }
            want.add(text.toString());
        }
        Check.due("methods in the document", want.size(), 36);
        TreeSet<String> got = new TreeSet<>();
        for (Method method : WoolThreads.class.getDeclaredMethods()) {
            if (!Modifier.isPrivate(method.getModifiers())) {
                got.add(told(method));
            }
        }
        Check.dueText("the face", got.toString(), want.toString());
        Constructor<?>[] constructors = WoolThreads.class.getDeclaredConstructors();
        Check.due("constructors", constructors.length, 1);
        Check.due("the constructor is public", Modifier.isPublic(constructors[0].getModifiers()) ? 1 : 0, 1);
        Check.due("the class is public and final", WoolThreads.class.getModifiers(), Modifier.PUBLIC | Modifier.FINAL);
    }

    private static void names() {
        TreeSet<String> open = new TreeSet<>();
        for (Method m : WoolThreads.class.getDeclaredMethods()) {
            if (Modifier.isPublic(m.getModifiers())) {
                open.add(m.getName());
            }
        }
        List<Method> inner = new ArrayList<>();
        for (Method m : WoolThreads.class.getDeclaredMethods()) {
            if (!Modifier.isPublic(m.getModifiers())) {
                inner.add(m);
            }
        }
        Class<?>[] classes = WoolThreads.class.getDeclaredClasses();
        for (Class<?> c : classes) {
            inner.addAll(List.of(c.getDeclaredMethods()));
            Check.due(c + " is static", Modifier.isStatic(c.getModifiers()) ? 1 : 0, 1);
        }
        Check.due("twelve classes at most", classes.length + 1 <= 12 ? 1 : 0, 1);
        for (Method m : inner) {
            Check.due(m + " has a name of its own", open.contains(m.getName()) ? 1 : 0, 0);
            Check.due(m + " has seven parameters at most", m.getParameterCount() <= 7 ? 1 : 0, 1);
        }
    }

    private static void fields() {
        List<Class<?>> classes = new ArrayList<>(List.of(WoolThreads.class.getDeclaredClasses()));
        classes.add(WoolThreads.class);
        for (Class<?> c : classes) {
            int own = 0;
            for (Field f : c.getDeclaredFields()) {
                if (Modifier.isStatic(f.getModifiers())) {
                    Check.due(f + " is final", Modifier.isFinal(f.getModifiers()) ? 1 : 0, 1);
                } else {
                    own++;
                }
                if (c == WoolThreads.class && !f.getName().equals("NONE")) {
                    Check.due(f + " is private", Modifier.isPrivate(f.getModifiers()) ? 1 : 0, 1);
                }
            }
            Check.due(c + " has twenty fields at most", own <= 20 ? 1 : 0, 1);
        }
    }

    private static void words(String code) {
        for (String banned : new String[] {"->", "::", "Exact\\(", "\\bfinally\\b", "\\bsynchronized\\b", "\\bassert\\b", "\\bcatch\\b",
            "\\btry\\b", "\\bSystem\\.(?!arraycopy)", "\\bObject\\b", "\\bprotected\\b", "\\bdouble\\b", "\\bfloat\\b", "\\bwhile\\b",
            "String\\.", "\"\\s*\\+|\\+\\s*\"", "import (?!java\\.util\\.(Arrays|NoSuchElementException);)"}) {
            Matcher m = Pattern.compile(banned).matcher(code);
            Check.dueText("the code has no " + banned, m.find() ? m.group() : "", "");
        }
        Matcher made = Pattern.compile("(.*)\\bnew (\\w+)").matcher(code);
        while (made.find()) {
            boolean thrown = made.group(1).trim().equals("throw");
            boolean ownRow = made.group(1).trim().matches("final \\S+ \\w+ =");
            boolean inConstructor = made.start() < code.indexOf("public int feed");
            Check.due("rows are made by constructors alone: " + made.group(), thrown || ownRow || inConstructor ? 1 : 0, 1);
        }
    }

    private static void methods(String source) {
        String[] lines = source.split("\n");
        for (int i = 0; i < lines.length; i++) {
            Matcher head = Pattern.compile("^((?: {4}){1,2})[^ /*].*\\) ?(throws [\\w, ]+)?\\{$").matcher(lines[i]);
            if (head.matches()) {
                int last = i;
                while (!lines[last].equals(head.group(1) + "}")) {
                    last++;
                }
                Check.due("sixty lines at most: " + lines[i].trim(), last - i + 1 <= 60 ? 1 : 0, 1);
            }
        }
    }

    private static void constants() {
        Check.due("NONE", WoolThreads.NONE, -1);
    }
}
