import java.math.BigInteger;
import java.util.ArrayList;
import java.util.List;
import java.util.NoSuchElementException;
import java.util.TreeSet;

/** The document told once more, plainly and slowly, with fractions of the library: what WoolThreads is held against. */
final class Model {
    record Token(char kind, String text, int place) {
    }

    record Event(String word, int one, int two, int hour) {
    }

    record Find(int place, int hour, int sort, int many) {
    }

    record Shop(int sort, int sold, int all) {
    }

    record Image(List<Find> finds, List<Integer> seats, List<Shop> shops) {
    }

    /** A fault in a text; made by the model's own reading alone. */
    static final class Fault extends RuntimeException {
        private static final long serialVersionUID = 1L;
        final int kind;
        final int place;

        Fault(int kind, int place) {
            this.kind = kind;
            this.place = place;
        }
    }

    /** The law's numbers, as the last clauses told them. */
    static final class Law {
        final int[][] shed = new int[8][10];
        final int[] hold = {16, 16, 16, 16, 16, 16, 16, 16, 16, 16};
        final int[] common = new int[10];
        final boolean[][] alike = new boolean[10][10];
        int wash = 0;
        int pass = 0;
        int take = 8;
        int clauses = 0;
    }

    private StringBuilder tape = new StringBuilder();
    private Law law = new Law();
    private final List<List<Event>> stories = new ArrayList<>();
    private List<Find> finds = new ArrayList<>();
    private List<Integer> seats = new ArrayList<>();
    private List<Shop> shops = new ArrayList<>();
    private final List<Image> images = new ArrayList<>();
    private int fault = -1;

    private List<Token> tokens;
    private int token;

    // ---- reading

    private static List<Token> tokensOf(String text) {
        List<Token> all = new ArrayList<>();
        java.util.regex.Matcher m = java.util.regex.Pattern.compile("([a-z]+)|([0-9]+)|( +)|(.)", java.util.regex.Pattern.DOTALL).matcher(text);
        while (m.find()) {
            if (m.group(1) != null) {
                all.add(new Token('w', m.group(1), m.start()));
            } else if (m.group(2) != null) {
                all.add(new Token('n', m.group(2), m.start()));
            } else if (m.group(4) != null) {
                all.add(new Token(m.group(4).charAt(0), m.group(4), m.start()));
            }
        }
        all.add(new Token('$', "", text.length()));
        return all;
    }

    private Token taken(char kind) {
        Token t = tokens.get(token);
        if (t.kind() != kind || t.place() == tokens.get(tokens.size() - 1).place()) {
            throw new Fault(1, t.place());
        }
        token++;
        return t;
    }

    private int number(int low, int high) {
        Token t = taken('n');
        BigInteger value = new BigInteger(t.text());
        if (value.compareTo(BigInteger.valueOf(low)) < 0 || value.compareTo(BigInteger.valueOf(high)) > 0) {
            throw new Fault(2, t.place());
        }
        return value.intValue();
    }

    private int second(int high, int first) {
        int place = tokens.get(token).place();
        int value = number(0, high);
        if (value == first) {
            throw new Fault(2, place);
        }
        return value;
    }

    private Law lawOf(String text) {
        Law read = new Law();
        tokens = tokensOf(text);
        token = 0;
        while (token < tokens.size() - 1) {
            Token word = taken('w');
            if (!List.of("shed", "hold", "wash", "pass", "take", "alike", "common").contains(word.text())) {
                throw new Fault(1, word.place());
            }
            if (read.clauses == 24) {
                throw new Fault(3, word.place());
            }
            if (word.text().equals("shed")) {
                int garment = number(0, 7);
                int sort = number(0, 9);
                read.shed[garment][sort] = number(0, 200);
            } else if (word.text().equals("hold")) {
                int sort = number(0, 9);
                read.hold[sort] = number(0, 16);
            } else if (word.text().equals("common")) {
                int sort = number(0, 9);
                read.common[sort] = number(0, 20);
            } else if (word.text().equals("alike")) {
                int sort = number(0, 9);
                int other = second(9, sort);
                read.alike[sort][other] = true;
                read.alike[other][sort] = true;
            } else if (word.text().equals("wash")) {
                read.wash = number(0, 16);
            } else if (word.text().equals("pass")) {
                read.pass = number(0, 8);
            } else {
                read.take = number(1, 15);
            }
            taken(';');
            read.clauses++;
        }
        return read;
    }

    private List<Event> storyOf(String text) {
        List<Event> read = new ArrayList<>();
        tokens = tokensOf(text);
        token = 0;
        while (token < tokens.size() - 1) {
            Token word = taken('w');
            if (!List.of("wear", "bare", "touch", "wash", "shake").contains(word.text())) {
                throw new Fault(1, word.place());
            }
            if (read.size() == 20) {
                throw new Fault(3, word.place());
            }
            int one = number(0, 9);
            int two = switch (word.text()) {
                case "wear" -> number(0, 7);
                case "touch" -> second(9, one);
                case "shake" -> number(0, 16);
                default -> -1;
            };
            Token at = taken('w');
            if (!at.text().equals("at")) {
                throw new Fault(1, at.place());
            }
            int place = tokens.get(token).place();
            int hour = number(0, 99);
            if (!read.isEmpty() && hour < read.get(read.size() - 1).hour()) {
                throw new Fault(3, place);
            }
            taken(';');
            read.add(new Event(word.text(), one, two, hour));
        }
        return read;
    }

    int feed(int a, int b, int c, int d, int e) {
        if (tape.length() == 400) {
            return -1;
        }
        for (int number : new int[] {a, b, c, d, e}) {
            for (byte sign : java.nio.ByteBuffer.allocate(4).putInt(number).array()) {
                tape.append((char) (sign & 255));
            }
        }
        return tape.length();
    }

    private String text(int n, int most) {
        check(n >= 0 && n <= tape.length() && n <= most);
        String text = tape.substring(0, n);
        tape = new StringBuilder();
        fault = -1;
        return text;
    }

    int law(int n) {
        String text = text(n, 400);
        try {
            law = lawOf(text);
        } catch (Fault f) {
            fault = f.place;
            return f.kind - 10;
        }
        return law.clauses;
    }

    int story(int n) {
        String text = text(n, 300);
        if (stories.size() == 4) {
            return -1;
        }
        List<Event> read;
        try {
            read = storyOf(text);
        } catch (Fault f) {
            fault = f.place;
            return f.kind - 10;
        }
        stories.add(read);
        return stories.size() - 1;
    }

    int fault() {
        return fault;
    }

    // ---- wrong arguments

    private static void check(boolean right) {
        if (!right) {
            throw new IllegalArgumentException();
        }
    }

    private static void sortAt(int sort) {
        check(sort >= 0 && sort <= 9);
    }

    private static void placeAt(int place) {
        check(place >= 0 && place <= 9);
    }

    private static void hourAt(int hour) {
        check(hour >= 0 && hour <= 99);
    }

    private List<Event> storyAt(int story) {
        if (story < 0 || story >= stories.size()) {
            throw new NoSuchElementException();
        }
        return stories.get(story);
    }

    private static void at(int index, List<?> list) {
        if (index < 0 || index >= list.size()) {
            throw new IndexOutOfBoundsException();
        }
    }

    // ---- the law

    int sheds(int garment, int sort) {
        check(garment >= 0 && garment <= 7);
        sortAt(sort);
        return law.shed[garment][sort];
    }

    int told(int sort, int what) {
        sortAt(sort);
        check(what >= 0 && what <= 4);
        return new int[] {law.hold[sort], law.common[sort], law.wash, law.pass, law.take}[what];
    }

    private TreeSet<Integer> group(int sort) {
        TreeSet<Integer> group = new TreeSet<>(List.of(sort));
        for (int round = 0; round < 10; round++) {
            for (int a : List.copyOf(group)) {
                for (int b = 0; b < 10; b++) {
                    if (law.alike[a][b]) {
                        group.add(b);
                    }
                }
            }
        }
        return group;
    }

    int alike(int sort) {
        sortAt(sort);
        int bits = 0;
        for (int s : group(sort)) {
            bits += (int) Math.pow(2, s);
        }
        return bits;
    }

    // ---- running

    private static int worn(List<Event> events, int place) {
        for (int i = events.size() - 1; i >= 0; i--) {
            Event e = events.get(i);
            if (e.one() == place && e.word().equals("bare")) {
                return -1;
            }
            if (e.one() == place && e.word().equals("wear")) {
                return e.two();
            }
        }
        return -1;
    }

    private int shedOf(int garment, int sort) {
        return garment < 0 ? 0 : law.shed[garment][sort];
    }

    /** How many threads of one sort lie on each place as an hour is over. */
    private int[] lying(List<Event> story, int sort, int hour) {
        int[] lies = new int[10];
        for (int h = 0; h <= hour; h++) {
            for (int i = 0; i < story.size(); i++) {
                Event e = story.get(i);
                if (e.hour() != h) {
                    continue;
                }
                List<Event> ahead = story.subList(0, i);
                switch (e.word()) {
                    case "touch" -> {
                        int one = lies[e.one()];
                        int two = lies[e.two()];
                        lies[e.one()] = Math.min(9999, one - one * law.pass / 16 + two * law.pass / 16 + shedOf(worn(ahead, e.two()), sort));
                        lies[e.two()] = Math.min(9999, two - two * law.pass / 16 + one * law.pass / 16 + shedOf(worn(ahead, e.one()), sort));
                    }
                    case "wash" -> lies[e.one()] = lies[e.one()] * law.wash / 16;
                    case "shake" -> lies[e.one()] = lies[e.one()] * e.two() / 16;
                    default -> {
                    }
                }
            }
            for (int p = 0; p < 10 && h < hour; p++) {
                lies[p] = lies[p] * law.hold[sort] / 16;
            }
        }
        return lies;
    }

    private int pileOf(List<Event> story, int place, int sort, int hour) {
        int sum = 0;
        for (int s : group(sort)) {
            sum += lying(story, s, hour)[place] + law.common[s];
        }
        return Math.min(sum, 60);
    }

    int lies(int story, int place, int sort, int hour) {
        List<Event> s = storyAt(story);
        placeAt(place);
        sortAt(sort);
        hourAt(hour);
        return lying(s, sort, hour)[place];
    }

    int pile(int story, int place, int sort, int hour) {
        List<Event> s = storyAt(story);
        placeAt(place);
        sortAt(sort);
        hourAt(hour);
        return pileOf(s, place, sort, hour);
    }

    int wears(int story, int place, int hour) {
        List<Event> s = storyAt(story);
        placeAt(place);
        hourAt(hour);
        return worn(s.stream().filter(e -> e.hour() <= hour).toList(), place);
    }

    int byWay(int story, int first, int second, int third, int sort, int hour) {
        List<Event> s = storyAt(story);
        placeAt(first);
        placeAt(second);
        placeAt(third);
        sortAt(sort);
        hourAt(hour);
        check(new TreeSet<>(java.util.Arrays.asList(first, second, third)).size() == 3);
        return lying(s.stream().filter(e -> {
            java.util.Set<Integer> two = new TreeSet<>(java.util.Arrays.asList(e.one(), e.two()));
            return !e.word().equals("touch") || two.contains(third) && (two.contains(first) || two.contains(second));
        }).toList(), sort, hour)[second];
    }

    // ---- finds

    int find(int place, int hour, int sort, int many) {
        placeAt(place);
        hourAt(hour);
        sortAt(sort);
        check(many >= 0 && many <= 60);
        if (finds.size() == 8) {
            return -1;
        }
        finds.add(new Find(place, hour, sort, many));
        return finds.size() - 1;
    }

    int found(int find, int what) {
        at(find, finds);
        check(what >= 0 && what <= 3);
        Find f = finds.get(find);
        return new int[] {f.place(), f.hour(), f.sort(), f.many()}[what];
    }

    int drop(int find) {
        at(find, finds);
        finds.remove(find);
        return finds.size();
    }

    private BigInteger numberOf(List<Event> story, List<Find> of) {
        BigInteger number = BigInteger.ONE;
        for (Find f : of) {
            int n = pileOf(story, f.place(), f.sort(), f.hour());
            BigInteger above = BigInteger.ONE;
            BigInteger below = BigInteger.ONE;
            for (int i = 0; i < f.many(); i++) {
                above = above.multiply(BigInteger.valueOf(Math.max(0, n - i)));
                below = below.multiply(BigInteger.valueOf(i + 1));
            }
            number = number.multiply(above.divide(below)).multiply(BigInteger.valueOf(law.take).pow(f.many()));
            number = number.multiply(BigInteger.valueOf(16 - law.take).pow(Math.max(0, n - f.many())));
        }
        return number;
    }

    private int scaleOf(List<Event> story, List<Find> of) {
        return of.stream().mapToInt(f -> pileOf(story, f.place(), f.sort(), f.hour())).sum();
    }

    int scale(int story) {
        return scaleOf(storyAt(story), finds);
    }

    int digits(int story) {
        return numberOf(storyAt(story), finds).toString().length();
    }

    int digit(int story, int k) {
        String text = numberOf(storyAt(story), finds).toString();
        return k < 0 || k >= text.length() ? -1 : text.charAt(text.length() - 1 - k) - '0';
    }

    int weighed(int story, int other) {
        List<Event> a = storyAt(story);
        List<Event> b = storyAt(other);
        return numberOf(a, finds).shiftLeft(4 * scaleOf(b, finds)).compareTo(numberOf(b, finds).shiftLeft(4 * scaleOf(a, finds)));
    }

    private int worthOf(List<Event> a, List<Event> b, List<Find> of) {
        BigInteger one = numberOf(a, of).shiftLeft(4 * scaleOf(b, of));
        BigInteger two = numberOf(b, of).shiftLeft(4 * scaleOf(a, of));
        if (two.signum() == 0) {
            return one.signum() == 0 ? 0 : 1000000;
        }
        return one.divide(two).min(BigInteger.valueOf(1000000)).intValue();
    }

    int worth(int story, int other) {
        return worthOf(storyAt(story), storyAt(other), finds);
    }

    int part(int story, int other, int find) {
        List<Event> a = storyAt(story);
        List<Event> b = storyAt(other);
        at(find, finds);
        return worthOf(a, b, List.of(finds.get(find)));
    }

    int said(int story, int other) {
        int worth = worth(story, other);
        return (worth >= 10 ? 1 : 0) + (worth >= 1000 ? 1 : 0) + (worth >= 1000000 ? 1 : 0);
    }

    // ---- events

    int events(int story) {
        return storyAt(story).size();
    }

    private static List<Event> without(List<Event> story, int event) {
        List<Event> rest = new ArrayList<>(story);
        rest.remove(event);
        return rest;
    }

    int counts(int story, int event) {
        List<Event> s = storyAt(story);
        at(event, s);
        return worthOf(s, without(s, event), finds);
    }

    int needed(int story, int k) {
        List<Event> s = storyAt(story);
        List<Integer> all = new ArrayList<>();
        for (int i = 0; i < s.size(); i++) {
            if (numberOf(s, finds).signum() > 0 && numberOf(without(s, i), finds).signum() == 0) {
                all.add(i);
            }
        }
        return k < 0 || k >= all.size() ? -1 : all.get(k);
    }

    int bench(int story, int place, int other, int hour) {
        List<Event> s = storyAt(story);
        placeAt(place);
        placeAt(other);
        hourAt(hour);
        check(place != other);
        List<Event> more = new ArrayList<>(s.stream().filter(e -> e.hour() <= hour).toList());
        more.add(new Event("touch", place, other, hour));
        more.addAll(s.stream().filter(e -> e.hour() > hour).toList());
        return worthOf(more, s, finds);
    }

    private boolean shows(List<Event> ahead, int from, int to, int hour) {
        int garment = worn(ahead, from);
        return finds.stream().anyMatch(f -> f.many() > 0 && f.place() == to && f.hour() >= hour && shedOf(garment, f.sort()) > 0);
    }

    int signs(int story, int event) {
        List<Event> s = storyAt(story);
        at(event, s);
        Event e = s.get(event);
        if (!e.word().equals("touch")) {
            return 0;
        }
        List<Event> ahead = s.subList(0, event);
        return (shows(ahead, e.one(), e.two(), e.hour()) ? 1 : 0) + (shows(ahead, e.two(), e.one(), e.hour()) ? 2 : 0);
    }

    int next(int story, int other, int hour) {
        List<Event> a = storyAt(story);
        List<Event> b = storyAt(other);
        hourAt(hour);
        int best = 0;
        int answer = -1;
        for (int place = 0; place < 10; place++) {
            for (int sort = 0; sort < 10; sort++) {
                int p = place;
                TreeSet<Integer> group = group(sort);
                boolean looked = finds.stream().anyMatch(f -> f.place() == p && f.hour() == hour && group.contains(f.sort()));
                int difference = Math.abs(pileOf(a, place, sort, hour) - pileOf(b, place, sort, hour));
                if (!looked && difference > best) {
                    best = difference;
                    answer = 100 * difference + 10 * place + sort;
                }
            }
        }
        return answer;
    }

    // ---- the rest

    int after(int sort, int left, int hours, boolean most) {
        sortAt(sort);
        check(left >= 0 && left <= 9999 && hours >= 0 && hours <= 60 && law.hold[sort] != 0);
        int answer = -1;
        for (int number = 0; number <= 99999; number++) {
            int rest = number;
            for (int h = 0; h < hours && rest >= left && rest > 0; h++) {
                rest = rest * law.hold[sort] / 16;
            }
            if (rest == left && (most || answer < 0)) {
                answer = number;
            }
        }
        return answer;
    }

    int seat(int sorts) {
        check(sorts >= 0 && sorts <= 1023);
        if (seats.size() == 40) {
            return -1;
        }
        seats.add(sorts);
        return seats.size();
    }

    private int having(int sort, int other) {
        return (int) seats.stream().filter(s -> (s >> sort) % 2 == 1 && (s >> other) % 2 == 1).count();
    }

    int share(int sort) {
        sortAt(sort);
        return having(sort, sort);
    }

    int together(int sort, int other) {
        sortAt(sort);
        sortAt(other);
        return having(sort, other) * seats.size() - having(sort, sort) * having(other, other);
    }

    int shop(int sort, int sold, int all) {
        sortAt(sort);
        check(sold >= 0 && sold <= all && all >= 1 && all <= 1000000);
        if (shops.size() == 12) {
            return -1;
        }
        shops.add(new Shop(sort, sold, all));
        return shops.size();
    }

    int rare(int sort, int what) {
        sortAt(sort);
        check(what >= 0 && what <= 2);
        List<Shop> of = shops.stream().filter(s -> s.sort() == sort).toList();
        if (of.isEmpty()) {
            return -1;
        }
        java.util.IntSummaryStatistics single = of.stream().mapToInt(s -> (int) (1000L * s.sold() / s.all())).summaryStatistics();
        long sold = of.stream().mapToLong(Shop::sold).sum();
        long all = of.stream().mapToLong(Shop::all).sum();
        return what == 0 ? (int) (1000 * sold / all) : what == 1 ? single.getMin() : single.getMax();
    }

    int image() {
        if (images.size() == 3) {
            return -1;
        }
        images.add(new Image(List.copyOf(finds), List.copyOf(seats), List.copyOf(shops)));
        return images.size();
    }

    int restore() {
        if (images.isEmpty()) {
            return -1;
        }
        Image image = images.remove(images.size() - 1);
        finds = new ArrayList<>(image.finds());
        seats = new ArrayList<>(image.seats());
        shops = new ArrayList<>(image.shops());
        return images.size();
    }

    int count(int what) {
        if (what < 0 || what > 6) {
            return -1;
        }
        return new int[] {law.clauses, stories.size(), finds.size(), seats.size(), shops.size(), images.size(), tape.length()}[what];
    }
}
