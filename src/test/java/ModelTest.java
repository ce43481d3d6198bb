import java.lang.reflect.InvocationTargetException;
import java.lang.reflect.Method;
import java.util.ArrayList;
import java.util.List;
import java.util.Random;

/** Runs of calls on a new object and on the model: both must answer, or throw, the same. The seeds are fixed. */
public final class ModelTest {
    private static final int RUNS = 1500;
    private static final int CALLS = 150;

    private static final List<Method> FACE = face();

    private static int calls = 0;
    private static int thrown = 0;

    private final Random random;
    private final WoolThreads x = new WoolThreads();
    private final Model model = new Model();
    private final List<String> told = new ArrayList<>();
    private boolean wrong = false;

    private ModelTest(long seed) {
        random = new Random(seed);
    }

    public static void main(String[] args) throws ReflectiveOperationException {
        int failed = 0;
        for (int seed = 0; seed < RUNS && failed < 3; seed++) {
            ModelTest test = new ModelTest(seed);
            test.run();
            if (test.wrong) {
                failed++;
                System.out.println("run " + seed);
                test.told.forEach(System.out::println);
            }
        }
        Check.due("runs that differ from the model", failed, 0);
        System.out.println("ModelTest: " + calls + " calls, " + thrown + " of them with an exception");
        Check.end("ModelTest");
    }

    private static List<Method> face() {
        List<Method> all = new ArrayList<>();
        for (Method m : WoolThreads.class.getDeclaredMethods()) {
            if (java.lang.reflect.Modifier.isPublic(m.getModifiers()) && !List.of("feed", "law", "story").contains(m.getName())) {
                all.add(m);
            }
        }
        all.sort(java.util.Comparator.comparing(Method::getName));
        return all;
    }

    private void run() throws ReflectiveOperationException {
        text("law", Texts.law(random));
        for (int i = random.nextInt(4); i >= 0; i--) {
            text("story", Texts.story(random));
        }
        for (int i = 0; i < CALLS && !wrong; i++) {
            int chance = random.nextInt(100);
            if (chance < 4) {
                text("law", Texts.spoilt(random, Texts.law(random)));
            } else if (chance < 8) {
                text("story", Texts.spoilt(random, Texts.story(random)));
            } else {
                Method m = FACE.get(random.nextInt(FACE.size()));
                // the model tries all numbers there
                if (!m.getName().equals("after") || random.nextInt(5) == 0) {
                    both(m.getName(), m.getParameterTypes(), arguments(m));
                }
            }
        }
    }

    private void text(String name, String text) throws ReflectiveOperationException {
        Class<?>[] five = {int.class, int.class, int.class, int.class, int.class};
        byte[] bytes = java.util.Arrays.copyOf(text.getBytes(java.nio.charset.StandardCharsets.ISO_8859_1), (text.length() + 19) / 20 * 20);
        java.nio.ByteBuffer in = java.nio.ByteBuffer.wrap(bytes);
        for (int i = 0; i < bytes.length; i += 20) {
            both("feed", five, new Object[] {in.getInt(), in.getInt(), in.getInt(), in.getInt(), in.getInt()});
        }
        int length = random.nextInt(40) == 0 ? text.length() + random.nextInt(41) - 20 : text.length();
        told.add(name + " of " + text.replaceAll("[^ -~]", "?"));
        both(name, new Class<?>[] {int.class}, new Object[] {length});
        both("fault", new Class<?>[0], new Object[0]);
    }

    private Object[] arguments(Method m) {
        Object[] all = new Object[m.getParameterCount()];
        for (int i = 0; i < all.length; i++) {
            all[i] = m.getParameterTypes()[i] == boolean.class ? (Object) random.nextBoolean() : (Object) argument(m.getName(), i);
        }
        return all;
    }

    /** Mostly what may be, so that calls do something; now and then anything. */
    private int argument(String name, int i) {
        if (random.nextInt(60) == 0) {
            return new int[] {-1, -2, 10, 60, 61, 100, 1024, 10000, Integer.MAX_VALUE, Integer.MIN_VALUE}[random.nextInt(10)];
        }
        String at = name + i;
        switch (at) {
            case "find1", "lies3", "pile3", "wears2", "byWay5", "bench3", "next2":
                return random.nextInt(6) == 0 ? random.nextInt(101) : random.nextInt(12);
            case "find3":
                return random.nextInt(3) == 0 ? 0 : random.nextInt(random.nextInt(10) == 0 ? 62 : 9);
            case "digit1":
                return random.nextInt(random.nextInt(3) == 0 ? 600 : 30);
            case "counts1", "signs1":
                return random.nextInt(14);
            case "part2", "found0", "drop0":
                return random.nextInt(6);
            case "found1", "told1", "rare1":
                return random.nextInt(6) - random.nextInt(2);
            case "count0":
                return random.nextInt(9) - 1;
            case "after1":
                return random.nextInt(4) == 0 ? random.nextInt(10001) : random.nextInt(40);
            case "after2":
                return random.nextInt(4) == 0 ? random.nextInt(62) : random.nextInt(6);
            case "seat0":
                return random.nextInt(1024);
            case "shop1":
                return random.nextInt(500);
            case "shop2":
                return random.nextInt(1000000);
            case "sheds0":
                return random.nextInt(9);
            default:
                return ofStoryPlaceOrSort(name, i);
        }
    }

    private int ofStoryPlaceOrSort(String name, int i) {
        boolean first = i == 0 && List.of("lies", "pile", "wears", "scale", "digits", "digit", "weighed", "worth", "part",
            "events", "counts", "needed", "byWay", "bench", "next", "signs", "said").contains(name);
        boolean second = i == 1 && List.of("weighed", "worth", "part", "next", "said").contains(name);
        return first || second ? random.nextInt(random.nextInt(12) == 0 ? 5 : 3) : random.nextInt(random.nextInt(4) == 0 ? 10 : 4);
    }

    private void both(String name, Class<?>[] types, Object[] arguments) throws ReflectiveOperationException {
        String got = answer(x, WoolThreads.class.getDeclaredMethod(name, types), arguments);
        String want = answer(model, Model.class.getDeclaredMethod(name, types), arguments);
        told.add(name + java.util.Arrays.toString(arguments) + " answered " + got + ", due is " + want);
        calls++;
        thrown += want.startsWith("throws.") ? 1 : 0;
        wrong |= !got.equals(want);
    }

    private static String answer(Object of, Method m, Object[] arguments) throws IllegalAccessException {
        m.setAccessible(true);
        try {
            return m.invoke(of, arguments).toString();
        } catch (InvocationTargetException e) {
            return "throws." + e.getCause().getClass().getSimpleName();
        }
    }
}
