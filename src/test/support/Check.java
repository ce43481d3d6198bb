import java.io.IOException;
import java.io.UncheckedIOException;
import java.nio.file.Files;
import java.nio.file.Path;

/** What the tests share: due answers, due exceptions that change nothing, and texts that are fed. */
final class Check {
    interface Call {
        int answer();
    }

    /** A call of which one argument is looked at. */
    interface Of {
        int answer(int argument);
    }

    /** Just what no argument that counts from 0 on may be, whatever its bound. */
    static final int[] FAR = {-1, Integer.MAX_VALUE, Integer.MIN_VALUE};

    private static final String DOCUMENT = document();

    private static int asked = 0;
    private static int wrong = 0;

    private Check() {
    }

    static String document() {
        try {
            return Files.readString(Path.of("../shared/DOC.md"));
        } catch (IOException e) {
            throw new UncheckedIOException(e);
        }
    }

    /** The words of the document that the answers behind this call hold; SentencesTest looks that none is left out. */
    static void sentence(String words) {
        due("the document says: " + words, DOCUMENT.contains(words) ? 1 : 0, 1);
    }

    /** The same for words under the heading of a promise. */
    static void promise(int number, String words) {
        due("promise " + number + " says: " + words, section(DOCUMENT, number).contains(words) ? 1 : 0, 1);
    }

    static String section(String document, int number) {
        String heading = "## Promise " + number + ":";
        int from = document.indexOf(heading);
        return from < 0 ? "" : document.substring(from, document.indexOf("\n## ", from));
    }

    static void due(String call, long got, long want) {
        asked++;
        if (got != want) {
            wrong++;
            System.out.println(call + " answered " + got + ", due is " + want);
        }
    }

    static void dueText(String call, String got, String want) {
        asked++;
        if (!got.equals(want)) {
            wrong++;
            System.out.println(call + " answered " + got + ", due is " + want);
        }
    }

    /** The call must throw just that class, and all that can be seen of x must be as before. */
    static void dueThrow(WoolThreads x, String call, Class<? extends RuntimeException> want, Call thrown) {
        String before = State.of(x);
        String got = "nothing";
        try {
            thrown.answer();
        } catch (RuntimeException e) {
            got = e.getClass().getName();
        }
        dueText(call + " throws", got, want.getName());
        dueText(call + " changes nothing", State.of(x), before);
    }

    /** An argument that may be low to high: answered at both ends and just within, refused just beyond and far off. */
    static void bounds(WoolThreads x, String call, Class<? extends RuntimeException> want, int low, int high, Of of) {
        for (int argument : new int[] {low, Math.min(low + 1, high), Math.max(high - 1, low), high}) {
            due(call + " answers at " + argument, answers(() -> of.answer(argument)) ? 1 : 0, 1);
        }
        for (int argument : new int[] {low - 1, high + 1, Integer.MIN_VALUE, Integer.MAX_VALUE}) {
            dueThrow(x, call + " at " + argument, want, () -> of.answer(argument));
        }
    }

    static void iaeBeyond(WoolThreads x, String call, int high, Of of) {
        bounds(x, call, IllegalArgumentException.class, 0, high, of);
    }

    static void nseBeyond(WoolThreads x, String call, Of of) {
        bounds(x, call, java.util.NoSuchElementException.class, 0, x.count(1) - 1, of);
    }

    private static boolean answers(Call call) {
        try {
            call.answer();
            return true;
        } catch (RuntimeException e) {
            return false;
        }
    }

    static void iae(WoolThreads x, String call, Call thrown) {
        dueThrow(x, call, IllegalArgumentException.class, thrown);
    }

    static void nse(WoolThreads x, String call, Call thrown) {
        dueThrow(x, call, java.util.NoSuchElementException.class, thrown);
    }

    static void index(WoolThreads x, String call, Call thrown) {
        dueThrow(x, call, IndexOutOfBoundsException.class, thrown);
    }

    /** Feeds a text, filled up with zeros to whole twenties. */
    static void feed(WoolThreads x, String text) {
        for (int from = 0; from < text.length(); from += 20) {
            int[] five = new int[5];
            for (int i = 0; i < 20; i++) {
                int sign = from + i < text.length() ? text.charAt(from + i) & 255 : 0;
                five[i / 4] = five[i / 4] << 8 | sign;
            }
            x.feed(five[0], five[1], five[2], five[3], five[4]);
        }
    }

    static int law(WoolThreads x, String text) {
        feed(x, text);
        return x.law(text.length());
    }

    static int story(WoolThreads x, String text) {
        feed(x, text);
        return x.story(text.length());
    }

    /** A new object with a law and stories, none of which may be at fault. */
    static WoolThreads with(String law, String... stories) {
        WoolThreads x = new WoolThreads();
        if (law(x, law) < 0) {
            throw new IllegalStateException("the test's law is at fault: " + law);
        }
        for (String story : stories) {
            if (story(x, story) < 0) {
                throw new IllegalStateException("the test's story is at fault: " + story);
            }
        }
        return x;
    }

    static void dueLawFault(String text, int kind, int place) {
        WoolThreads x = with("take 3;");
        due("law(" + text + ")", law(x, text), kind - 10);
        due("fault() behind law(" + text + ")", x.fault(), place);
        due("the law stays behind law(" + text + ")", x.told(0, 4) * 100 + x.count(0), 301);
        due("the tape is empty behind law(" + text + ")", x.count(6), 0);
    }

    static void dueLaw(String text, int clauses) {
        WoolThreads x = with("take 3;");
        due("law(" + text + ")", law(x, text), clauses);
        due("fault() behind law(" + text + ")", x.fault(), -1);
        due("count(0) behind law(" + text + ")", x.count(0), clauses);
    }

    static void dueStoryFault(String text, int kind, int place) {
        WoolThreads x = new WoolThreads();
        due("story(" + text + ")", story(x, text), kind - 10);
        due("fault() behind story(" + text + ")", x.fault(), place);
        due("no story behind story(" + text + ")", x.count(1), 0);
        due("the tape is empty behind story(" + text + ")", x.count(6), 0);
    }

    static void dueStory(String text, int events) {
        WoolThreads x = new WoolThreads();
        due("story(" + text + ")", story(x, text), 0);
        due("fault() behind story(" + text + ")", x.fault(), -1);
        due("events(0) behind story(" + text + ")", x.events(0), events);
    }

    static String times(String text, int many) {
        return text.repeat(many);
    }

    static void end(String name) {
        System.out.println(name + ": " + asked + " answers, " + wrong + " not as due");
        if (wrong != 0 || asked == 0) {
            System.exit(1);
        }
    }
}
