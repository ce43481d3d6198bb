import java.lang.management.ManagementFactory;
import java.lang.reflect.Array;
import java.lang.reflect.Field;
import java.lang.reflect.Modifier;
import java.math.BigInteger;
import java.util.ArrayList;
import java.util.Arrays;
import java.util.IdentityHashMap;
import java.util.LinkedHashMap;
import java.util.List;
import java.util.Map;
import java.util.function.ToIntFunction;

/**
 * "What it is" and "Not promised": one case from its beginning to its end, worked out by hand; a full object that is asked
 * everything up to its 512th call; and what a call must not do beside its answer.
 */
public final class UseTest {
    private static final String LAW = "shed 2 7 32;shed 2 4 6;hold 7 12;pass 8;wash 4;take 5;alike 7 8;common 8 1;";
    private static final String OVER_A_CHAIR = "wear 0 2 at 0;touch 0 2 at 1;touch 1 2 at 3;touch 1 3 at 3;wash 2 at 4;shake 3 8 at 5;";
    private static final String HIMSELF = "wear 0 2 at 0;touch 0 3 at 2;";
    private static final int CALLS = 512;

    public static void main(String[] args) throws ReflectiveOperationException, InterruptedException {
        threadsAndLaw();
        storiesHourByHour();
        finds();
        greatFraction();
        weighed();
        ways();
        first();
        shopsAndSeats();
        nextSaidImages();
        lastCall();
        nothingBesideAnswers();
        objectsAtOnce();
        room();
        Check.end("UseTest");
    }

    // ---- one case

    /** 0 wears garment 2; over a chair (2) another one (1) brings its threads on seat 3, or 0 sat there himself. */
    private static WoolThreads wholeCase() {
        WoolThreads x = Check.with(LAW, OVER_A_CHAIR, HIMSELF);
        x.find(3, 3, 7, 2);
        x.find(2, 3, 4, 0);
        return x;
    }

    private static void threadsAndLaw() {
        Check.sentence("Red wool on a seat: sorts of threads, what garments shed and what holds them, told as a law's text;");
        WoolThreads x = new WoolThreads();
        Check.due("the law's clauses", Check.law(x, LAW), 8);
        Check.due("garment 2 sheds of sort 7", x.sheds(2, 7), 32);
        Check.due("garment 2 sheds of sort 4", x.sheds(2, 4), 6);
        Check.due("garment 2 sheds of sort 8", x.sheds(2, 8), 0);
        Check.due("hold of sort 7", x.told(7, 0), 12);
        Check.due("hold of sort 4", x.told(4, 0), 16);
    }

    private static void storiesHourByHour() {
        Check.sentence("stories of who touched what when, as texts, run hour by hour over all ways;");
        WoolThreads x = Check.with(LAW, OVER_A_CHAIR);
        int[][] ofSort7 = {{0, 0, 0}, {0, 32, 0}, {0, 24, 0}, {5, 9, 4}, {3, 1, 3}, {2, 0, 1}, {1, 0, 0}, {0, 0, 0}};
        int[][] ofSort4 = {{0, 0, 0}, {0, 6, 0}, {0, 6, 0}, {2, 3, 1}, {2, 0, 1}, {2, 0, 0}, {2, 0, 0}, {2, 0, 0}};
        for (int hour = 0; hour < ofSort7.length; hour++) {
            Check.due("0 has none at " + hour, x.lies(0, 0, 7, hour) + x.lies(0, 0, 4, hour), 0);
            for (int place = 1; place <= 3; place++) {
                Check.due("sort 7 on " + place + " at " + hour, x.lies(0, place, 7, hour), ofSort7[hour][place - 1]);
                Check.due("sort 4 on " + place + " at " + hour, x.lies(0, place, 4, hour), ofSort4[hour][place - 1]);
            }
        }
        Check.due("he wears it", x.wears(0, 0, 99), 2);
        Check.due("the other one wears nothing", x.wears(0, 1, 99), -1);
    }

    private static void finds() {
        Check.sentence("what was found by tapes, and what was looked for and not found;");
        WoolThreads x = Check.with(LAW);
        Check.due("found", x.find(3, 3, 7, 2), 0);
        Check.due("looked for", x.find(2, 3, 4, 0), 1);
        Check.due("how many were found", x.found(0, 3), 2);
        Check.due("none was found", x.found(1, 3), 0);
        Check.due("finds", x.count(2), 2);
    }

    private static void greatFraction() {
        Check.sentence("how likely that is by each story, as a great fraction, digit by digit;");
        WoolThreads x = wholeCase();
        // 2 of 5 by 10 ways, and none of 3
        dueNumber(x, 0, BigInteger.valueOf(10L * 25 * 1331 * 1331), 8);
        // 2 of 25 by 300 ways, and none of 0
        dueNumber(x, 1, BigInteger.valueOf(300L * 25).multiply(BigInteger.valueOf(11).pow(23)), 25);
    }

    private static void dueNumber(WoolThreads x, int story, BigInteger number, int scale) {
        String digits = number.toString();
        Check.due("scale of " + story, x.scale(story), scale);
        Check.due("digits of " + story, x.digits(story), digits.length());
        for (int k = 0; k < digits.length(); k++) {
            Check.due("digit " + k + " of " + story, x.digit(story, k), digits.charAt(digits.length() - 1 - k) - '0');
        }
        Check.due("no more digits of " + story, x.digit(story, digits.length()), -1);
    }

    private static void weighed() {
        Check.sentence("two stories weighed, each find's and each event's part;");
        WoolThreads x = wholeCase();
        Check.due("the way over the chair is more likely", x.weighed(0, 1), 1);
        Check.due("19 times", x.worth(0, 1), 19);
        Check.due("part of what was found", x.part(0, 1, 0), 59);
        Check.due("part of what was not found", x.part(0, 1, 1), 0);
        Check.due("part of it the other way", x.part(1, 0, 1), 3);
        for (int event = 0; event < 6; event++) {
            Check.due("part of event " + event, x.counts(0, event), event < 4 ? 1000000 : 1);
            Check.due("event " + event + " is needed", x.needed(0, event), event < 4 ? event : -1);
        }
    }

    private static void ways() {
        Check.sentence("ways over chairs, benches, glasses that tell alike;");
        WoolThreads x = wholeCase();
        Check.due("from 0 on 1 by way of the chair", x.byWay(0, 0, 1, 2, 7, 3), 9);
        Check.due("from 2 on 3 by way of 1", x.byWay(0, 2, 3, 1, 7, 3), 0);
        // 37 lie there then, of which two are less likely than of 25
        Check.due("one touch more", x.bench(1, 0, 3, 2), 0);
        Check.due("one that is no matter", x.bench(1, 8, 9, 2), 1);
        Check.due("alike", x.alike(7), 1 << 7 | 1 << 8);
        Check.due("a pile of both", x.pile(0, 3, 8, 3), 5);
    }

    private static void first() {
        Check.sentence("how many there were at first;");
        WoolThreads x = wholeCase();
        Check.due("at least", x.after(7, 9, 2, false), 16);
        Check.due("at most", x.after(7, 9, 2, true), 18);
    }

    private static void shopsAndSeats() {
        Check.sentence("how rare a sort is by shops and seats, which go together;");
        WoolThreads x = wholeCase();
        x.shop(7, 1, 8);
        x.shop(7, 3, 1000);
        Check.due("in all shops", x.rare(7, 0), 3);
        Check.due("at least", x.rare(7, 1), 3);
        Check.due("at most", x.rare(7, 2), 125);
        for (int sorts : new int[] {1 << 7 | 1 << 4, 1 << 7, 1 << 4, 1 << 7 | 1 << 4}) {
            x.seat(sorts);
        }
        Check.due("seats with sort 7", x.share(7), 3);
        Check.due("sorts 7 and 4 together", x.together(7, 4), 2 * 4 - 3 * 3);
    }

    private static void nextSaidImages() {
        Check.sentence("what to look at next; what may be said; images. ==== 1.");
        WoolThreads x = wholeCase();
        Check.due("next is sort 7 on the chair", x.next(0, 1, 3), 927);
        Check.due("it speaks for it", x.said(0, 1), 1);
        Check.due("nothing the other way", x.said(1, 0), 0);
        Check.due("his touch of the chair shows nowhere", x.signs(0, 1), 0);
        Check.due("his touch of the seat shows", x.signs(1, 1), 1);
        Check.due("image", x.image(), 1);
        Check.due("drop", x.drop(0), 1);
        Check.due("without the find", x.worth(0, 1), 0);
        Check.due("restore", x.restore(), 0);
        Check.due("with it again", x.worth(0, 1), 19);
    }

    // ---- an object's 512 calls

    private static int fill(WoolThreads x) {
        String law = "take 7;common 0 20;common 1 20;alike 0 1;pass 5;wash 11;";
        for (int garment = 0; garment < 8; garment++) {
            law += "shed " + garment + " 0 200;shed " + garment + " 1 " + (garment + 1) + ";";
        }
        int calls = text(x, law + " ".repeat(400 - law.length()), true);
        for (int story = 0; story < 4; story++) {
            StringBuilder told = new StringBuilder("wear 0 " + story + " at 0;wear 1 7 at 0;");
            for (int i = 0; i < 18; i++) {
                told.append(i % 3 == story ? "shake 1 9at" + i * 5 : "touch " + i % 2 + " " + (2 + i % 3) + "at" + i * 5).append(';');
            }
            calls += text(x, told.toString(), false);
        }
        for (int i = 0; i < 40; i++) {
            x.seat(i * 25);
            if (i < 8) {
                x.find(i % 4, 99 - i, i % 2, 25 + i);
            }
            if (i < 12) {
                x.shop(i % 3, 1000 * i, 1000000 - i);
            }
            if (i < 3) {
                x.image();
            }
        }
        return calls + 40 + 8 + 12 + 3;
    }

    private static int text(WoolThreads x, String text, boolean law) {
        Check.due("a text of the full object", law ? Check.law(x, text) : Check.story(x, text), law ? 22 : x.count(1) - 1);
        return (text.length() + 19) / 20 + (law ? 1 : 2);
    }

    /** Every call that changes nothing, with arguments that cost much. */
    private static Map<String, ToIntFunction<WoolThreads>> questions() {
        Map<String, ToIntFunction<WoolThreads>> all = new LinkedHashMap<>();
        all.put("fault", WoolThreads::fault);
        all.put("sheds", x -> x.sheds(7, 1));
        all.put("told", x -> x.told(0, 1));
        all.put("alike", x -> x.alike(1));
        all.put("lies", x -> x.lies(3, 2, 0, 99));
        all.put("pile", x -> x.pile(2, 3, 1, 99));
        all.put("wears", x -> x.wears(1, 0, 99));
        all.put("found", x -> x.found(7, 3));
        all.put("scale", x -> x.scale(0));
        all.put("digits", x -> x.digits(1));
        all.put("digit", x -> x.digit(2, 300));
        all.put("weighed", x -> x.weighed(0, 3));
        all.put("worth", x -> x.worth(3, 0));
        all.put("part", x -> x.part(1, 2, 7));
        all.put("events", x -> x.events(3));
        all.put("counts", x -> x.counts(0, 3));
        all.put("needed", x -> x.needed(1, 19));
        all.put("byWay", x -> x.byWay(2, 0, 1, 3, 0, 99));
        all.put("bench", x -> x.bench(3, 0, 1, 99));
        all.put("after", x -> x.after(0, 9999, 60, true));
        all.put("share", x -> x.share(3));
        all.put("together", x -> x.together(0, 4));
        all.put("rare", x -> x.rare(2, 0));
        all.put("next", x -> x.next(0, 3, 99));
        all.put("signs", x -> x.signs(0, 3));
        all.put("said", x -> x.said(2, 1));
        all.put("count", x -> x.count(2));
        return all;
    }

    private static void lastCall() {
        Check.sentence("An object is used for at most 512 calls after it has been made; what later calls answer is free.");
        Check.sentence("and nothing about an object after its 512th call.");
        List<ToIntFunction<WoolThreads>> asked = new ArrayList<>(questions().values());
        List<String> names = new ArrayList<>(questions().keySet());
        int[] due = new int[asked.size()];
        for (int i = 0; i < due.length; i++) {
            WoolThreads x = new WoolThreads();
            fill(x);
            due[i] = asked.get(i).applyAsInt(x);
        }
        WoolThreads x = new WoolThreads();
        int filled = fill(x);
        int[] got = new int[CALLS - filled];
        long before = allocated();
        for (int i = 0; i < got.length; i++) {
            got[i] = asked.get(i % due.length).applyAsInt(x);
        }
        long made = allocated() - before;
        for (int i = 0; i < got.length; i++) {
            Check.due("call " + (filled + i + 1) + ", " + names.get(i % due.length), got[i], due[i % due.length]);
        }
        Check.due("all kinds are asked ten times and more", got.length >= 10 * due.length ? 1 : 0, 1);
        // one object of 16 bytes a call would be more
        Check.due("calls that make nothing, by bytes: " + made, made < 16L * got.length ? 1 : 0, 1);
    }

    /** Bytes that this thread has made, where the machine counts them. */
    private static long allocated() {
        if (ManagementFactory.getThreadMXBean() instanceof com.sun.management.ThreadMXBean bean && bean.isThreadAllocatedMemorySupported()) {
            return bean.getThreadAllocatedBytes(Thread.currentThread().getId());
        }
        return 0;
    }

    // ---- what is not promised

    private static void nothingBesideAnswers() {
        Check.sentence("Nothing is promised beyond the answers and state changes described above,");
        WoolThreads x = new WoolThreads();
        fill(x);
        String before = State.of(x);
        List<String> names = new ArrayList<>(questions().keySet());
        Map<String, ToIntFunction<WoolThreads>> asked = questions();
        for (String one : names) {
            int due = asked.get(one).applyAsInt(x);
            for (String other : names) {
                asked.get(other).applyAsInt(x);
                Check.due(one + " behind " + other, asked.get(one).applyAsInt(x), due);
            }
        }
        Check.dueText("questions change nothing", State.of(x), before);
    }

    /** Objects share nothing, so threads with an object each are safe. */
    private static void objectsAtOnce() throws InterruptedException {
        Check.sentence("Use of one object from several threads at once is not promised to be safe.");
        int[] due = answers();
        int[][] got = new int[6][];
        Thread[] threads = new Thread[got.length];
        for (int i = 0; i < threads.length; i++) {
            int own = i;
            threads[i] = new Thread(() -> got[own] = answers());
            threads[i].start();
        }
        for (int i = 0; i < threads.length; i++) {
            threads[i].join();
            Check.dueText("answers of thread " + i, Arrays.toString(got[i]), Arrays.toString(due));
        }
    }

    private static int[] answers() {
        WoolThreads x = Check.with(LAW, OVER_A_CHAIR, HIMSELF);
        WoolThreads y = Check.with("take 3;common 1 9;", "", OVER_A_CHAIR);
        int[] all = new int[400];
        for (int i = 0; i < all.length; i += 4) {
            x.find(3, i % 9, 7, i % 5);
            y.find(i % 10, 3, 1, i % 9);
            all[i] = x.worth(i / 4 % 2, 1);
            all[i + 1] = y.digit(i / 4 % 2, i % 30);
            all[i + 2] = x.counts(0, i % 6) + x.bench(1, 0, 3, i % 7);
            all[i + 3] = y.next(0, 1, i % 50) + (i % 3 == 0 ? x.drop(0) + y.drop(0) : 0);
        }
        return all;
    }

    // ---- the one room of all calls

    private static void room() throws ReflectiveOperationException {
        Check.sentence("How the state is held inside the object is free, as are the speed of each call, the text of toString and the behaviour of equals and hashCode.");
        WoolThreads x = new WoolThreads();
        fill(x);
        IdentityHashMap<Object, Integer> seen = new IdentityHashMap<>();
        walk(x, seen);
        int parts = seen.values().stream().mapToInt(Integer::intValue).sum();
        System.out.println("UseTest: " + seen.size() + " objects and arrays, " + parts + " fields and elements");
        // a thousand of them leave most of 600,000 objects and 7.3 million parts to others
        Check.due("few objects", seen.size() <= 150 ? 1 : 0, 1);
        Check.due("few parts", parts <= 4500 ? 1 : 0, 1);
    }

    private static void walk(Object object, IdentityHashMap<Object, Integer> seen) throws ReflectiveOperationException {
        if (object == null || seen.containsKey(object)) {
            return;
        }
        if (object.getClass().isArray()) {
            seen.put(object, Array.getLength(object));
            for (int i = 0; i < Array.getLength(object) && object instanceof Object[]; i++) {
                walk(Array.get(object, i), seen);
            }
            return;
        }
        seen.put(object, 0);
        int own = 0;
        for (Field f : object.getClass().getDeclaredFields()) {
            if (!Modifier.isStatic(f.getModifiers())) {
                own++;
                f.setAccessible(true);
                if (!f.getType().isPrimitive()) {
                    walk(f.get(object), seen);
                }
            }
        }
        seen.put(object, own);
    }
}
