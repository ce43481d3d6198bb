import java.io.IOException;
import java.lang.reflect.InvocationTargetException;
import java.net.URL;
import java.net.URLClassLoader;
import java.nio.file.Files;
import java.nio.file.Path;
import java.util.ArrayList;
import java.util.List;
import java.util.regex.Matcher;
import java.util.regex.Pattern;
import javax.tools.ToolProvider;

/** README.md tells the truth: its examples answer what stands behind them, its faults are such, and it names every call. */
public final class ReadmeTest {
    private static final Pattern ANSWERED = Pattern.compile("(x\\.\\w+\\([^;]*\\));\\s*// (throws \\w+|-?[0-9]+)\\b.*");
    private static final Pattern FAULT = Pattern.compile("\\| (law|story) \\| `([^`]*)` \\| (-?[0-9]+) \\| (-?[0-9]+) \\|");

    public static void main(String[] args) throws IOException, ReflectiveOperationException {
        String page = Files.readString(Path.of("README.md"));
        examples(page);
        faults(page);
        names(page);
        Check.end("ReadmeTest");
    }

    private static void examples(String page) throws IOException, ReflectiveOperationException {
        StringBuilder helpers = new StringBuilder();
        StringBuilder body = new StringBuilder();
        List<String> calls = new ArrayList<>();
        List<String> wants = new ArrayList<>();
        Matcher blocks = Pattern.compile("(?s)```java\n(.*?)```").matcher(page);
        while (blocks.find()) {
            if (blocks.group(1).startsWith("static ")) {
                helpers.append(blocks.group(1));
                continue;
            }
            for (String line : blocks.group(1).split("\n")) {
                Matcher m = ANSWERED.matcher(line);
                if (m.matches()) {
                    body.append("try { got.add(\"\" + ").append(m.group(1)).append("); } catch (RuntimeException e) { got.add(\"throws \" + e.getClass().getSimpleName()); }\n");
                    calls.add(m.group(1));
                    wants.add(m.group(2));
                } else {
                    body.append(line).append('\n');
                }
            }
        }
        List<?> got = run("public class Page {\n" + helpers + "public static java.util.List<String> run() {\njava.util.List<String> got = new java.util.ArrayList<>();\n"
            + body + "return got;\n}\n}\n");
        Check.due("examples on the page", calls.size() > 20 ? 1 : 0, 1);
        Check.due("examples that ran", got.size(), calls.size());
        for (int i = 0; i < calls.size() && i < got.size(); i++) {
            Check.dueText(calls.get(i), got.get(i).toString(), wants.get(i));
        }
    }

    private static List<?> run(String source) throws IOException, ReflectiveOperationException {
        Path room = Files.createTempDirectory("readme");
        Path file = room.resolve("Page.java");
        Path made = room.resolve("Page.class");
        try {
            Files.writeString(file, source);
            int failed = ToolProvider.getSystemJavaCompiler().run(null, null, null, "-cp", System.getProperty("java.class.path"), "-d", room.toString(), file.toString());
            Check.due("the page's code compiles", failed, 0);
            if (failed != 0) {
                return List.of();
            }
            try (URLClassLoader loader = new URLClassLoader(new URL[] {room.toUri().toURL()})) {
                return (List<?>) loader.loadClass("Page").getMethod("run").invoke(null);
            } catch (InvocationTargetException e) {
                Check.dueText("the page's code", "throws " + e.getCause(), "");
                return List.of();
            }
        } finally {
            Files.deleteIfExists(file);
            Files.deleteIfExists(made);
            Files.deleteIfExists(room);
        }
    }

    private static void faults(String page) {
        Matcher m = FAULT.matcher(page);
        int rows = 0;
        while (m.find()) {
            WoolThreads x = new WoolThreads();
            String text = m.group(2);
            int got = m.group(1).equals("law") ? Check.law(x, text) : Check.story(x, text);
            Check.due(m.group(1) + " of " + text, got, Integer.parseInt(m.group(3)));
            Check.due("fault() behind " + text, x.fault(), Integer.parseInt(m.group(4)));
            rows++;
        }
        Check.due("faults on the page", rows, 8);
    }

    private static void names(String page) {
        Matcher face = Pattern.compile("public int (\\w+)\\(").matcher(Check.document());
        while (face.find()) {
            Check.due("the page names " + face.group(1), Pattern.compile("`" + face.group(1) + "[`(]").matcher(page).find() ? 1 : 0, 1);
        }
        for (String thrown : new String[] {"NoSuchElementException", "IndexOutOfBoundsException", "IllegalArgumentException"}) {
            Check.due("the page names " + thrown, page.contains("- `" + thrown + "`:") ? 1 : 0, 1);
        }
    }
}
