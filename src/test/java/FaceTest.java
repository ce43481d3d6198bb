import java.lang.reflect.InvocationTargetException;
import java.lang.reflect.Method;
import java.util.ArrayList;
import java.util.LinkedHashMap;
import java.util.List;
import java.util.Map;
import java.util.regex.Matcher;
import java.util.regex.Pattern;

/**
 * Every argument of every call of the face, at each bound, just within, just beyond and far off, on an empty object, on
 * one that holds some of all, and on a full one: within the answer is the model's, beyond the due exception is thrown,
 * and all that can still be seen (the tape's bytes and the images, too) is as without that call. No object gets more
 * calls than the document promises.
 */
public final class FaceTest {
    private static final int CALLS_MOST = 512;
    private static final List<String> OF_TWO_STORIES = List.of("weighed", "worth", "part", "next", "said");
    private static final List<String> OF_FINDS = List.of("found", "drop", "part");
    private static final Map<String, List<String>> FACE = face();

    private final int filled;
    private final Object on;
    private int calls = 0;

    private FaceTest(Object on, int filled) {
        this.on = on;
        this.filled = filled;
    }

    public static void main(String[] args) {
        Check.due("calls of the document", FACE.size(), 36);
        for (int filled = 0; filled <= 2; filled++) {
            String before = made(filled).drained();
            Check.dueText("the model is filled alike", model(filled).drained(), before);
            for (String name : FACE.keySet()) {
                single(filled, name, before);
                pairs(filled, name, before);
            }
        }
        Check.end("FaceTest");
    }

    private static Map<String, List<String>> face() {
        Map<String, List<String>> all = new LinkedHashMap<>();
        Matcher m = Pattern.compile("public int (\\w+)\\(([^)]*)\\)").matcher(Check.document());
        while (m.find()) {
            List<String> names = new ArrayList<>();
            for (String parameter : m.group(2).isEmpty() ? new String[0] : m.group(2).split(", ")) {
                names.add(parameter.split(" ")[1]);
            }
            all.put(m.group(1), names);
        }
        return all;
    }

    // ---- objects that are filled alike, and what can be seen of them

    private static FaceTest made(int filled) {
        FaceTest test = new FaceTest(new WoolThreads(), filled);
        test.fill();
        return test;
    }

    private static FaceTest model(int filled) {
        FaceTest test = new FaceTest(new Model(), filled);
        test.fill();
        return test;
    }

    private void fill() {
        if (filled == 0) {
            return;
        }
        text("law", "shed 0 0 16;shed 7 9 5;shed 3 4 9;hold 1 8;hold 2 0;common 3 20;alike 4 5;pass 4;wash 8;take 5;");
        String story = "wear 3 3 at 0;wear 0 0 at 0;touch 3 4 at 1;touch 0 9 at 2;wash 4 at 5;";
        // all have five events, so that the bound of an event is one
        for (int i = 0; i < (filled == 1 ? 3 : 4); i++) {
            text("story", i == 0 ? story : "wear 9 7 at " + i + ";touch 9 " + i + " at 8;" + "bare 9 at 9;".repeat(3));
        }
        int images = filled == 1 ? 2 : 3;
        for (int i = 0; i < images; i++) {
            call("find", 4, 1 + i, 4, 3);
            call("seat", 512 + i);
            call("shop", 4, i, 9 + i);
            call("image");
        }
        int[] most = filled == 1 ? new int[] {5, 6, 4} : new int[] {8, 40, 12};
        for (int i = images; i < most[1]; i++) {
            call("seat", i);
        }
        for (int i = images; i < most[2]; i++) {
            call("shop", i % 10, i, 100);
        }
        for (int i = images; i < most[0]; i++) {
            call("find", i, 5, 4, i - images);
        }
        text("law", "take 5;take 16;");
        text("", "take 6;".repeat(filled == 1 ? 5 : 20) + " ".repeat(filled == 1 ? 5 : 260));
    }

    private void text(String name, String text) {
        for (int from = 0; from < text.length(); from += 20) {
            Object[] five = new Object[5];
            for (int i = 0; i < 5; i++) {
                int number = 0;
                for (int j = from + 4 * i; j < from + 4 * i + 4; j++) {
                    number = number << 8 | (j < text.length() ? text.charAt(j) : 0);
                }
                five[i] = number;
            }
            call("feed", five);
        }
        if (!name.isEmpty()) {
            call(name, text.length());
        }
    }

    private String call(String name, Object... arguments) {
        calls++;
        Class<?>[] types = new Class<?>[arguments.length];
        for (int i = 0; i < types.length; i++) {
            types[i] = arguments[i] instanceof Boolean ? boolean.class : int.class;
        }
        try {
            Method m = on.getClass().getDeclaredMethod(name, types);
            m.setAccessible(true);
            return m.invoke(on, arguments).toString();
        } catch (InvocationTargetException e) {
            return "throws." + e.getCause().getClass().getSimpleName();
        } catch (ReflectiveOperationException e) {
            throw new IllegalStateException(e);
        }
    }

    private int count(int what) {
        return Integer.parseInt(call("count", what));
    }

    /** All that is left to be seen, at the end also by going back to each image and by reading the tape. */
    private String drained() {
        StringBuilder seen = new StringBuilder();
        for (int what = 0; what <= 6; what++) {
            seen.append(count(what)).append(' ');
        }
        seen.append(call("fault"));
        law(seen);
        for (int story = 0; story < count(1); story++) {
            for (String name : new String[] {"events", "scale", "digits"}) {
                seen.append(' ').append(call(name, story));
            }
            seen.append(' ').append(call("wears", story, 9, 9)).append(call("lies", story, 4, 4, 1)).append(call("lies", story, 0, 9, 9));
        }
        evidence(seen);
        for (int image = count(5); image >= 0; image--) {
            seen.append(" restore ").append(call("restore"));
            evidence(seen);
        }
        seen.append(" tape ").append(call("law", count(6))).append(call("told", 0, 4)).append(' ').append(call("fault"));
        Check.due("calls of one object", calls <= CALLS_MOST ? 1 : 0, 1);
        return seen.toString();
    }

    private void law(StringBuilder seen) {
        for (int sort = 0; sort < 10; sort++) {
            seen.append(" sort ").append(call("alike", sort)).append(' ').append(call("told", sort, 0)).append(' ').append(call("told", sort, 1));
            seen.append(' ').append(call("sheds", sort % 8, sort)).append(' ').append(call("sheds", 7 - sort % 8, sort));
        }
        for (int what = 2; what <= 4; what++) {
            seen.append(' ').append(call("told", 0, what));
        }
    }

    private void evidence(StringBuilder seen) {
        int finds = count(2);
        for (int find = 0; find < finds; find++) {
            for (int what = 0; what <= 3; what++) {
                seen.append(' ').append(call("found", find, what));
            }
        }
        seen.append(" seats ").append(count(3)).append(" shops ").append(count(4));
        for (int sort = 0; sort < 10; sort++) {
            seen.append(' ').append(call("share", sort)).append(' ').append(call("rare", sort, 0));
        }
        seen.append(' ').append(call("rare", 4, 1)).append(' ').append(call("rare", 4, 2)).append(' ').append(call("together", 0, 9));
    }

    // ---- arguments

    private static boolean isStory(String name, String parameter) {
        return parameter.equals("story") || parameter.equals("other") && OF_TWO_STORIES.contains(name);
    }

    private static String refusal(String name, String parameter) {
        if (isStory(name, parameter)) {
            return "throws.NoSuchElementException";
        }
        boolean index = parameter.equals("event") || parameter.equals("find") && OF_FINDS.contains(name);
        return index ? "throws.IndexOutOfBoundsException" : "throws.IllegalArgumentException";
    }

    private static int low(String parameter) {
        return parameter.equals("all") ? 1 : 0;
    }

    /** The greatest that is no wrong one; all numbers may be where the document names no bound. */
    private static int high(int filled, String name, String parameter) {
        int[] bytes = {0, 40, 400};
        int[] finds = {0, 5, 8};
        if (isStory(name, parameter)) {
            return filled == 0 ? -1 : filled + 1;
        }
        switch (parameter) {
            case "garment":
                return 7;
            case "hour":
                return 99;
            case "find":
                return finds[filled] - 1;
            case "event":
                return filled == 0 ? -1 : 4;
            case "many", "hours":
                return 60;
            case "left":
                return 9999;
            case "sorts":
                return 1023;
            case "sold":
                return 100;
            case "all":
                return 1000000;
            case "n":
                return name.equals("story") ? Math.min(300, bytes[filled]) : bytes[filled];
            case "what":
                return Map.of("told", 4, "found", 3, "rare", 2).getOrDefault(name, Integer.MAX_VALUE);
            case "k", "a", "b", "c", "d", "e":
                return Integer.MAX_VALUE;
            default:
                return 9;
        }
    }

    /** An argument that is within its bounds if there is one such; places of one call differ. */
    private static Object usual(int filled, String name, String parameter) {
        switch (parameter) {
            case "most":
                return true;
            case "all":
                return 100;
            case "place", "first":
                return 4;
            case "second":
                return 5;
            case "third":
                return 6;
            case "other":
                return isStory(name, parameter) ? 1 : 5;
            case "story":
                return 0;
            default:
                return Math.max(0, Math.min(1, high(filled, name, parameter)));
        }
    }

    private static Object[] usualAll(int filled, String name) {
        return FACE.get(name).stream().map(parameter -> usual(filled, name, parameter)).toArray();
    }

    // ---- what is asked

    private static void single(int filled, String name, String before) {
        List<String> parameters = FACE.get(name);
        ask(filled, name, usualAll(filled, name), before);
        for (int i = 0; i < parameters.size(); i++) {
            String parameter = parameters.get(i);
            if (parameter.equals("most")) {
                continue;
            }
            int low = low(parameter);
            int high = high(filled, name, parameter);
            for (int value : new int[] {low - 1, low, low + 1, high - 1, high, high + 1, Integer.MIN_VALUE, Integer.MAX_VALUE}) {
                Object[] arguments = usualAll(filled, name);
                arguments[i] = value;
                ask(filled, name, arguments, before);
            }
        }
    }

    private static void pairs(int filled, String name, String before) {
        List<String> parameters = FACE.get(name);
        for (int i = 0; i < parameters.size(); i++) {
            for (int j = 0; j < i; j++) {
                for (int both = 0; both < 4; both++) {
                    Object[] arguments = usualAll(filled, name);
                    arguments[i] = arguments[i] instanceof Boolean ? arguments[i] : (Object) wrong(filled, name, parameters.get(i), both % 2 == 0);
                    arguments[j] = wrong(filled, name, parameters.get(j), both < 2);
                    ask(filled, name, arguments, before);
                }
            }
        }
    }

    private static int wrong(int filled, String name, String parameter, boolean above) {
        int high = high(filled, name, parameter);
        return above && high < Integer.MAX_VALUE ? high + 1 : low(parameter) - 1;
    }

    /** Which exception is due, told by the table above; the first of the document's list if several fit. */
    private static String due(int filled, String name, Object[] arguments) {
        List<String> thrown = new ArrayList<>();
        List<String> parameters = FACE.get(name);
        for (int i = 0; i < arguments.length; i++) {
            if (arguments[i] instanceof Integer value) {
                int high = high(filled, name, parameters.get(i));
                if (high < Integer.MAX_VALUE && (value < low(parameters.get(i)) || value > high)) {
                    thrown.add(refusal(name, parameters.get(i)));
                }
            }
        }
        if (name.equals("shop") && (int) arguments[1] > (int) arguments[2]) {
            thrown.add("throws.IllegalArgumentException");
        }
        for (String first : new String[] {"throws.NoSuchElementException", "throws.IndexOutOfBoundsException", "throws.IllegalArgumentException"}) {
            if (thrown.contains(first)) {
                return first;
            }
        }
        return "";
    }

    private static String declared(String name) {
        Matcher m = Pattern.compile("public int " + name + "\\([^)]*\\)( throws [^;]*)?;").matcher(Check.document());
        return m.find() && m.group(1) != null ? m.group(1) : "";
    }

    private static void ask(int filled, String name, Object[] arguments, String before) {
        String call = name + java.util.Arrays.toString(arguments) + " of one filled by " + filled;
        FaceTest real = made(filled);
        FaceTest model = model(filled);
        String got = real.call(name, arguments);
        Check.dueText(call, got, model.call(name, arguments));
        String thrown = due(filled, name, arguments);
        if (thrown.isEmpty()) {
            Check.due(call + " is answered", got.startsWith("throws.") ? 0 : 1, 1);
            Check.dueText("what is seen behind " + call, real.drained(), model.drained());
        } else {
            Check.dueText(call, got, thrown);
            Check.due("the face names what " + name + " throws", declared(name).contains(got.substring("throws.".length())) ? 1 : 0, 1);
            Check.dueText("what is seen behind " + call, real.drained(), before);
        }
    }
}
