import java.util.Arrays;
import java.util.NoSuchElementException;

public final class WoolThreads {
    public static final int NONE = -1;

    private static final int SORTS = 10;
    private static final int GARMENTS = 8;
    private static final int PLACES = 10;
    private static final int HOURS = 100;
    private static final int WHOLE = 16;

    private static final int TAPE_BYTES = 400;
    private static final int FEED_BYTES = 20;
    private static final int STORY_BYTES = 300;
    private static final int CLAUSES_MOST = 24;
    private static final int EVENTS_MOST = 20;
    /** A bench has one touch more than a text may tell. */
    private static final int EVENTS_ROOM = 21;
    private static final int STORIES_MOST = 4;
    private static final int FINDS_MOST = 8;
    private static final int SEATS_MOST = 40;
    private static final int SHOPS_MOST = 12;
    private static final int IMAGES_MOST = 3;

    private static final int SHED_MOST = 200;
    private static final int PASS_MOST = 8;
    private static final int COMMON_MOST = 20;
    private static final int LIES_MOST = 9999;
    private static final int PILE_MOST = 60;
    private static final int SOLD_MOST = 1000000;
    private static final int WORTH_MOST = 1000000;
    private static final int AFTER_MOST = 99999;
    private static final int AFTER_HOURS = 60;

    private static final int CANNOT_STAND = 1;
    private static final int NO_SUCH_NUMBER = 2;
    private static final int TOO_MANY_OR_EARLY = 3;
    private static final int FAULT_LESS = 10;

    private static final int LAW_SHED = 0;
    private static final int LAW_HOLD = 1;
    private static final int LAW_WASH = 2;
    private static final int LAW_PASS = 3;
    private static final int LAW_TAKE = 4;
    private static final int LAW_ALIKE = 5;
    private static final int LAW_COMMON = 6;

    private static final int WEAR = 0;
    private static final int BARE = 1;
    private static final int TOUCH = 2;
    private static final int WASH = 3;
    private static final int SHAKE = 4;

    private final Tape tape;
    private final Story[] stories;
    private final Story varied;
    private final Evidence evidence;
    private final Evidence[] images;
    private final Run run;
    private final Run otherRun;
    private final int[] piles;
    private final Balance balance;
    private Law law;
    private Law draftLaw;
    private Story draftStory;
    private int storyCount;
    private int imageCount;

    public WoolThreads() {
        tape = new Tape();
        law = new Law();
        draftLaw = new Law();
        stories = new Story[STORIES_MOST];
        for (int i = 0; i < STORIES_MOST; i++) {
            stories[i] = new Story();
        }
        draftStory = new Story();
        varied = new Story();
        evidence = new Evidence();
        images = new Evidence[IMAGES_MOST];
        for (int i = 0; i < IMAGES_MOST; i++) {
            images[i] = new Evidence();
        }
        run = new Run(law, varied);
        otherRun = new Run(law, varied);
        piles = new int[FINDS_MOST];
        balance = new Balance();
    }

    // ---- texts

    public int feed(int a, int b, int c, int d, int e) {
        if (tape.size > TAPE_BYTES - FEED_BYTES) {
            return NONE;
        }
        tape.append(a);
        tape.append(b);
        tape.append(c);
        tape.append(d);
        tape.append(e);
        return tape.size;
    }

    public int law(int n) throws IllegalArgumentException {
        openText(n, TAPE_BYTES);
        draftLaw.readFrom(tape);
        if (tape.failed()) {
            return tape.faultKind - FAULT_LESS;
        }
        Law before = law;
        law = draftLaw;
        draftLaw = before;
        return law.clauses;
    }

    public int story(int n) throws IllegalArgumentException {
        openText(n, STORY_BYTES);
        // a text that can't become a story has no fault either, so it is not read
        if (!within(storyCount, STORIES_MOST)) {
            return NONE;
        }
        draftStory.readFrom(tape);
        if (tape.failed()) {
            return tape.faultKind - FAULT_LESS;
        }
        Story unused = stories[storyCount];
        stories[storyCount] = draftStory;
        draftStory = unused;
        storyCount++;
        return storyCount - 1;
    }

    public int fault() {
        return tape.faultPlace;
    }

    private void openText(int length, int most) {
        if (length < 0 || length > tape.size || length > most) {
            throw new IllegalArgumentException("no such length of a text");
        }
        tape.open(length);
    }

    // ---- the law

    public int sheds(int garment, int sort) throws IllegalArgumentException {
        needBelow(garment, GARMENTS);
        needBelow(sort, SORTS);
        return law.shedBy(garment, sort);
    }

    public int told(int sort, int what) throws IllegalArgumentException {
        needBelow(sort, SORTS);
        switch (what) {
            case 0:
                return law.holdOf(sort);
            case 1:
                return law.commonOf(sort);
            case 2:
                return law.wash;
            case 3:
                return law.pass;
            case 4:
                return law.take;
            default:
                throw new IllegalArgumentException("no such what");
        }
    }

    public int alike(int sort) throws IllegalArgumentException {
        needBelow(sort, SORTS);
        return law.alikeWith(sort);
    }

    // ---- what lies by a story

    public int lies(int story, int place, int sort, int hour) throws NoSuchElementException, IllegalArgumentException {
        Story told = storyAt(story);
        needBelow(place, PLACES);
        needBelow(sort, SORTS);
        needBelow(hour, HOURS);
        return lyingAt(told, place, sort, hour);
    }

    public int pile(int story, int place, int sort, int hour) throws NoSuchElementException, IllegalArgumentException {
        Story told = storyAt(story);
        needBelow(place, PLACES);
        needBelow(sort, SORTS);
        needBelow(hour, HOURS);
        run.begin(law, told);
        run.goTo(hour);
        return run.pileOn(place, sort);
    }

    public int wears(int story, int place, int hour) throws NoSuchElementException, IllegalArgumentException {
        Story told = storyAt(story);
        needBelow(place, PLACES);
        needBelow(hour, HOURS);
        return told.wornBehind(place, told.eventsUntil(hour));
    }

    public int byWay(int story, int first, int second, int third, int sort, int hour) throws NoSuchElementException, IllegalArgumentException {
        Story told = storyAt(story);
        needBelow(first, PLACES);
        needBelow(second, PLACES);
        needBelow(third, PLACES);
        needBelow(sort, SORTS);
        needBelow(hour, HOURS);
        if (first == second || first == third || second == third) {
            throw new IllegalArgumentException("not three places");
        }
        varied.copyByWay(told, first, second, third);
        return lyingAt(varied, second, sort, hour);
    }

    private int lyingAt(Story told, int place, int sort, int hour) {
        run.begin(law, told);
        run.goTo(hour);
        return run.lyingOn(place, sort);
    }

    // ---- finds

    public int find(int place, int hour, int sort, int many) throws IllegalArgumentException {
        needBelow(place, PLACES);
        needBelow(hour, HOURS);
        needBelow(sort, SORTS);
        needBelow(many, PILE_MOST + 1);
        return evidence.finds.add(place, hour, sort, many);
    }

    public int found(int find, int what) throws IndexOutOfBoundsException, IllegalArgumentException {
        Finds finds = evidence.finds;
        needIndex(find, Math.min(finds.size, FINDS_MOST));
        switch (what) {
            case 0:
                return finds.place[find];
            case 1:
                return finds.hour[find];
            case 2:
                return finds.sort[find];
            case 3:
                return finds.many[find];
            default:
                throw new IllegalArgumentException("no such what");
        }
    }

    public int drop(int find) throws IndexOutOfBoundsException {
        needIndex(find, evidence.finds.size);
        evidence.finds.takeBack(find);
        return evidence.finds.size;
    }

    // ---- how likely the finds are

    public int scale(int story) throws NoSuchElementException {
        judge(storyAt(story), balance.first, NONE);
        return balance.first.scale;
    }

    public int digits(int story) throws NoSuchElementException {
        judge(storyAt(story), balance.first, NONE);
        return balance.first.number.howManyDigits();
    }

    public int digit(int story, int k) throws NoSuchElementException {
        judge(storyAt(story), balance.first, NONE);
        return balance.first.number.digitAt(k);
    }

    public int weighed(int story, int other) throws NoSuchElementException {
        Story told = storyAt(story);
        Story against = storyAt(other);
        judge(told, balance.first, NONE);
        judge(against, balance.second, NONE);
        return balance.compared();
    }

    public int worth(int story, int other) throws NoSuchElementException {
        Story told = storyAt(story);
        Story against = storyAt(other);
        return worthOf(told, against, NONE);
    }

    public int part(int story, int other, int find) throws NoSuchElementException, IndexOutOfBoundsException {
        Story told = storyAt(story);
        Story against = storyAt(other);
        needIndex(find, evidence.finds.size);
        return worthOf(told, against, find);
    }

    public int said(int story, int other) throws NoSuchElementException {
        Story told = storyAt(story);
        Story against = storyAt(other);
        int worth = worthOf(told, against, NONE);
        if (worth < 10) {
            return 0;
        }
        if (worth < 1000) {
            return 1;
        }
        return worth < WORTH_MOST ? 2 : 3;
    }

    private int worthOf(Story told, Story against, int onlyFind) {
        judge(told, balance.first, onlyFind);
        judge(against, balance.second, onlyFind);
        return balance.ratio();
    }

    /** Puts how likely the finds (or only one of them, unless it is NONE) are by a story into chance. */
    private void judge(Story told, Chance chance, int onlyFind) {
        fillPiles(told);
        chance.begin();
        for (int i = 0; i < evidence.finds.size && i < FINDS_MOST; i++) {
            if (onlyFind == NONE || onlyFind == i) {
                chance.times(piles[i], evidence.finds.many[i], law.take);
            }
        }
    }

    private void fillPiles(Story told) {
        Finds finds = evidence.finds;
        int last = finds.lastHour();
        run.begin(law, told);
        for (int hour = 0; hour <= last && hour < HOURS; hour++) {
            run.goTo(hour);
            for (int i = 0; i < finds.size && i < FINDS_MOST; i++) {
                if (finds.hour[i] == hour) {
                    piles[i] = run.pileOn(finds.place[i], finds.sort[i]);
                }
            }
        }
    }

    // ---- events of a story

    public int events(int story) throws NoSuchElementException {
        return storyAt(story).size;
    }

    public int counts(int story, int event) throws NoSuchElementException, IndexOutOfBoundsException {
        Story told = storyAt(story);
        needIndex(event, told.size);
        varied.copyWithout(told, event);
        return worthOf(told, varied, NONE);
    }

    public int needed(int story, int k) throws NoSuchElementException {
        Story told = storyAt(story);
        if (k < 0 || !isLikely(told)) {
            return NONE;
        }
        int ahead = 0;
        for (int event = 0; event < told.size; event++) {
            varied.copyWithout(told, event);
            if (!isLikely(varied)) {
                if (ahead == k) {
                    return event;
                }
                ahead++;
            }
        }
        return NONE;
    }

    /** take is neither 0 nor 16, so only a find above its pile makes a story unlikely. */
    private boolean isLikely(Story told) {
        fillPiles(told);
        for (int i = 0; i < evidence.finds.size && i < FINDS_MOST; i++) {
            if (evidence.finds.many[i] > piles[i]) {
                return false;
            }
        }
        return true;
    }

    public int bench(int story, int place, int other, int hour) throws NoSuchElementException, IllegalArgumentException {
        Story told = storyAt(story);
        needBelow(place, PLACES);
        needBelow(other, PLACES);
        needBelow(hour, HOURS);
        if (place == other) {
            throw new IllegalArgumentException("not two places");
        }
        varied.copyWithTouch(told, place, other, hour);
        return worthOf(varied, told, NONE);
    }

    public int signs(int story, int event) throws NoSuchElementException, IndexOutOfBoundsException {
        Story told = storyAt(story);
        needIndex(event, Math.min(told.size, EVENTS_ROOM));
        if (told.kind[event] != TOUCH) {
            return 0;
        }
        int one = told.one[event];
        int two = told.two[event];
        int hour = told.hour[event];
        int signs = 0;
        if (showsOn(two, told.wornBehind(one, event), hour)) {
            signs += 1;
        }
        if (showsOn(one, told.wornBehind(two, event), hour)) {
            signs += 2;
        }
        return signs;
    }

    private boolean showsOn(int place, int garment, int hour) {
        Finds finds = evidence.finds;
        for (int i = 0; i < finds.size && i < FINDS_MOST; i++) {
            boolean there = finds.place[i] == place && finds.hour[i] >= hour && finds.many[i] > 0;
            if (there && law.shedBy(garment, finds.sort[i]) > 0) {
                return true;
            }
        }
        return false;
    }

    public int next(int story, int other, int hour) throws NoSuchElementException, IllegalArgumentException {
        Story told = storyAt(story);
        Story against = storyAt(other);
        needBelow(hour, HOURS);
        run.begin(law, told);
        run.goTo(hour);
        otherRun.begin(law, against);
        otherRun.goTo(hour);
        int greatest = 0;
        int answer = NONE;
        for (int place = 0; place < PLACES; place++) {
            for (int sort = 0; sort < SORTS; sort++) {
                int difference = Math.abs(run.pileOn(place, sort) - otherRun.pileOn(place, sort));
                if (difference > greatest && !evidence.finds.lookedAt(place, hour, law.alikeWith(sort))) {
                    greatest = difference;
                    answer = 100 * difference + 10 * place + sort;
                }
            }
        }
        return answer;
    }

    // ---- how many there were at first

    public int after(int sort, int left, int hours, boolean most) throws IllegalArgumentException {
        needBelow(sort, SORTS);
        needBelow(left, LIES_MOST + 1);
        needBelow(hours, AFTER_HOURS + 1);
        int hold = law.holdOf(sort);
        if (hold == 0) {
            throw new IllegalArgumentException("nothing is held");
        }
        int number = most ? leastLeaving(left + 1, hold, hours) - 1 : leastLeaving(left, hold, hours);
        if (number > AFTER_MOST || leftOf(number, hold, hours) != left) {
            return NONE;
        }
        return number;
    }

    /** What is left never falls as the number grows, so halving finds the least; one above all if there is none. */
    private static int leastLeaving(int left, int hold, int hours) {
        int low = 0;
        int high = AFTER_MOST + 1;
        for (int step = 0; step < 32 && low < high; step++) {
            int middle = (low + high) / 2;
            if (leftOf(middle, hold, hours) >= left) {
                high = middle;
            } else {
                low = middle + 1;
            }
        }
        return low;
    }

    private static int leftOf(int number, int hold, int hours) {
        int left = number;
        for (int i = 0; i < hours; i++) {
            left = left * hold / WHOLE;
        }
        return left;
    }

    // ---- seats and shops

    public int seat(int sorts) throws IllegalArgumentException {
        needBelow(sorts, 1 << SORTS);
        return evidence.seats.add(sorts);
    }

    public int share(int sort) throws IllegalArgumentException {
        needBelow(sort, SORTS);
        return evidence.seats.having(1 << sort);
    }

    public int together(int sort, int other) throws IllegalArgumentException {
        needBelow(sort, SORTS);
        needBelow(other, SORTS);
        Seats seats = evidence.seats;
        int both = seats.having(1 << sort | 1 << other);
        return both * seats.size - seats.having(1 << sort) * seats.having(1 << other);
    }

    public int shop(int sort, int sold, int all) throws IllegalArgumentException {
        needBelow(sort, SORTS);
        if (all < 1 || all > SOLD_MOST || sold < 0 || sold > all) {
            throw new IllegalArgumentException("no such sale");
        }
        return evidence.shops.add(sort, sold, all);
    }

    public int rare(int sort, int what) throws IllegalArgumentException {
        needBelow(sort, SORTS);
        switch (what) {
            case 0:
                return evidence.shops.rareInAll(sort);
            case 1:
                return evidence.shops.rareAtLeast(sort);
            case 2:
                return evidence.shops.rareAtMost(sort);
            default:
                throw new IllegalArgumentException("no such what");
        }
    }

    // ---- images

    public int image() {
        if (!within(imageCount, IMAGES_MOST)) {
            return NONE;
        }
        images[imageCount].copy(evidence);
        imageCount++;
        return imageCount;
    }

    public int restore() {
        if (!within(imageCount - 1, IMAGES_MOST)) {
            return NONE;
        }
        imageCount--;
        evidence.copy(images[imageCount]);
        return imageCount;
    }

    public int count(int what) {
        switch (what) {
            case 0:
                return law.clauses;
            case 1:
                return storyCount;
            case 2:
                return evidence.finds.size;
            case 3:
                return evidence.seats.size;
            case 4:
                return evidence.shops.size;
            case 5:
                return imageCount;
            case 6:
                return tape.size;
            default:
                return NONE;
        }
    }

    // ---- wrong arguments

    private static boolean within(int value, int bound) {
        return value >= 0 && value < bound;
    }

    private static void needBelow(int value, int bound) {
        if (!within(value, bound)) {
            throw new IllegalArgumentException("no such number");
        }
    }

    private static void needIndex(int index, int size) {
        if (!within(index, size)) {
            throw new IndexOutOfBoundsException("no such index");
        }
    }

    private Story storyAt(int story) {
        if (!within(story, storyCount) || !within(story, STORIES_MOST)) {
            throw new NoSuchElementException("no such story");
        }
        return stories[story];
    }

    // ---- the classes inside

    /** The bytes that were fed, and a text of them that is read; behind its first fault nothing more is read. */
    private static final class Tape {
        final byte[] bytes = new byte[TAPE_BYTES];
        int size;
        int end;
        int at;
        int start;
        int faultKind;
        int faultPlace = NONE;

        void append(int number) {
            for (int shift = 24; shift >= 0 && within(size, TAPE_BYTES); shift -= 8) {
                bytes[size] = (byte) (number >> shift);
                size++;
            }
        }

        /** The first bytes become the text; they stay readable until something is fed again. */
        void open(int length) {
            end = Math.max(0, Math.min(length, TAPE_BYTES));
            size = 0;
            at = 0;
            start = 0;
            faultKind = 0;
            faultPlace = NONE;
        }

        boolean failed() {
            return faultKind != 0;
        }

        void fail(int kind, int place) {
            if (!failed()) {
                faultKind = kind;
                faultPlace = place;
            }
        }

        /** The byte at a place of the text; NONE beyond its end. */
        int byteAt(int place) {
            return place >= 0 && place < end && place < TAPE_BYTES ? bytes[place] & 255 : NONE;
        }

        void skipBlanks() {
            for (int i = at; i < end && byteAt(i) == ' '; i++) {
                at = i + 1;
            }
        }

        boolean hasMore() {
            skipBlanks();
            return !failed() && at < end;
        }

        /** Goes over all bytes from low to high that stand there; they begin at start. */
        void readAll(char low, char high) {
            skipBlanks();
            start = at;
            for (int i = at; i < end && byteAt(i) >= low && byteAt(i) <= high; i++) {
                at = i + 1;
            }
        }

        void readWord() {
            if (!failed()) {
                readAll('a', 'z');
            }
        }

        boolean wordIs(String word) {
            if (at - start != word.length()) {
                return false;
            }
            for (int i = 0; i < word.length(); i++) {
                if (byteAt(start + i) != word.charAt(i)) {
                    return false;
                }
            }
            return true;
        }

        /** Of two faults at one word the least counts: no such word, ahead of one too many. */
        void refuseWord(boolean unknown, boolean tooMany) {
            if (unknown) {
                fail(CANNOT_STAND, start);
            } else if (tooMany) {
                fail(TOO_MANY_OR_EARLY, start);
            }
        }

        void expectWord(String word) {
            readWord();
            if (!wordIs(word)) {
                fail(CANNOT_STAND, start);
            }
        }

        /** A number from low to high; low itself where there is a fault. */
        int readNumber(int low, int high) {
            if (failed()) {
                return low;
            }
            readAll('0', '9');
            if (at == start) {
                fail(CANNOT_STAND, start);
                return low;
            }
            int value = 0;
            for (int i = start; i < at; i++) {
                // any number of digits may stand there: beyond a thousand all bounds are passed
                value = Math.min(value * 10 + byteAt(i) - '0', 1000);
            }
            if (value < low || value > high) {
                fail(NO_SUCH_NUMBER, start);
                return low;
            }
            return value;
        }

        /** Refuses the number that was read last if it is the one ahead. */
        void refuseSame(int latest, int ahead) {
            if (latest == ahead) {
                fail(NO_SUCH_NUMBER, start);
            }
        }

        void expectSemicolon() {
            if (failed()) {
                return;
            }
            skipBlanks();
            if (byteAt(at) == ';') {
                at++;
            } else {
                fail(CANNOT_STAND, at);
            }
        }
    }

    /** What garments shed, what holds threads, and how tapes and glasses are. */
    private static final class Law {
        final int[] shed = new int[GARMENTS * SORTS];
        final int[] hold = new int[SORTS];
        final int[] common = new int[SORTS];
        final int[] alikes = new int[SORTS];
        int wash;
        int pass;
        int take;
        int clauses;

        Law() {
            clear();
        }

        void clear() {
            Arrays.fill(shed, 0);
            Arrays.fill(hold, WHOLE);
            Arrays.fill(common, 0);
            for (int sort = 0; sort < SORTS; sort++) {
                alikes[sort] = 1 << sort;
            }
            wash = 0;
            pass = 0;
            take = 8;
            clauses = 0;
        }

        int shedBy(int garment, int sort) {
            boolean there = garment >= 0 && garment < GARMENTS && sort >= 0 && sort < SORTS;
            return there ? shed[garment * SORTS + sort] : 0;
        }

        int holdOf(int sort) {
            return within(sort, SORTS) ? hold[sort] : WHOLE;
        }

        int commonOf(int sort) {
            return within(sort, SORTS) ? common[sort] : 0;
        }

        int alikeWith(int sort) {
            return within(sort, SORTS) ? alikes[sort] : 0;
        }

        void readFrom(Tape tape) {
            clear();
            // every clause has a word's byte, so there are no more rounds than bytes
            for (int i = 0; i <= TAPE_BYTES && tape.hasMore(); i++) {
                readClause(tape);
            }
        }

        void readClause(Tape tape) {
            tape.readWord();
            int kind = clauseOfWord(tape);
            tape.refuseWord(kind == NONE, clauses >= CLAUSES_MOST);
            switch (kind) {
                case LAW_SHED:
                    readShed(tape);
                    break;
                case LAW_HOLD:
                    readOfSort(tape, hold, WHOLE);
                    break;
                case LAW_WASH:
                    wash = tape.readNumber(0, WHOLE);
                    break;
                case LAW_PASS:
                    pass = tape.readNumber(0, PASS_MOST);
                    break;
                case LAW_TAKE:
                    take = tape.readNumber(1, WHOLE - 1);
                    break;
                case LAW_ALIKE:
                    readAlike(tape);
                    break;
                case LAW_COMMON:
                    readOfSort(tape, common, COMMON_MOST);
                    break;
                default:
                    break;
            }
            tape.expectSemicolon();
            clauses++;
        }

        static int clauseOfWord(Tape tape) {
            if (tape.wordIs("shed")) {
                return LAW_SHED;
            }
            if (tape.wordIs("hold")) {
                return LAW_HOLD;
            }
            if (tape.wordIs("wash")) {
                return LAW_WASH;
            }
            if (tape.wordIs("pass")) {
                return LAW_PASS;
            }
            if (tape.wordIs("take")) {
                return LAW_TAKE;
            }
            if (tape.wordIs("alike")) {
                return LAW_ALIKE;
            }
            return tape.wordIs("common") ? LAW_COMMON : NONE;
        }

        void readShed(Tape tape) {
            int garment = tape.readNumber(0, GARMENTS - 1);
            int sort = tape.readNumber(0, SORTS - 1);
            int threads = tape.readNumber(0, SHED_MOST);
            if (within(garment, GARMENTS) && within(sort, SORTS)) {
                shed[garment * SORTS + sort] = threads;
            }
        }

        void readOfSort(Tape tape, int[] row, int most) {
            int sort = tape.readNumber(0, SORTS - 1);
            int number = tape.readNumber(0, most);
            if (within(sort, row.length)) {
                row[sort] = number;
            }
        }

        void readAlike(Tape tape) {
            int sort = tape.readNumber(0, SORTS - 1);
            int other = tape.readNumber(0, SORTS - 1);
            tape.refuseSame(other, sort);
            int group = alikeWith(sort) | alikeWith(other);
            for (int i = 0; i < SORTS; i++) {
                if ((group >> i & 1) == 1) {
                    alikes[i] = group;
                }
            }
        }
    }

    /** Events by their hours. */
    private static final class Story {
        final int[] kind = new int[EVENTS_ROOM];
        final int[] one = new int[EVENTS_ROOM];
        final int[] two = new int[EVENTS_ROOM];
        final int[] hour = new int[EVENTS_ROOM];
        int size;

        void add(int newKind, int newOne, int newTwo, int newHour) {
            if (within(size, EVENTS_ROOM)) {
                kind[size] = newKind;
                one[size] = newOne;
                two[size] = newTwo;
                hour[size] = newHour;
                size++;
            }
        }

        void addFrom(Story from, int event) {
            if (within(event, from.size) && within(event, EVENTS_ROOM)) {
                add(from.kind[event], from.one[event], from.two[event], from.hour[event]);
            }
        }

        void copyWithout(Story from, int event) {
            size = 0;
            for (int i = 0; i < from.size; i++) {
                if (i != event) {
                    addFrom(from, i);
                }
            }
        }

        void copyByWay(Story from, int first, int second, int third) {
            size = 0;
            for (int i = 0; i < from.size && i < EVENTS_ROOM; i++) {
                if (from.kind[i] != TOUCH || from.touches(i, third, first) || from.touches(i, third, second)) {
                    addFrom(from, i);
                }
            }
        }

        boolean touches(int event, int place, int other) {
            if (!within(event, size) || !within(event, EVENTS_ROOM)) {
                return false;
            }
            return one[event] == place && two[event] == other || one[event] == other && two[event] == place;
        }

        void copyWithTouch(Story from, int place, int other, int atHour) {
            int ahead = from.eventsUntil(atHour);
            size = 0;
            for (int i = 0; i < ahead; i++) {
                addFrom(from, i);
            }
            add(TOUCH, place, other, atHour);
            for (int i = ahead; i < from.size; i++) {
                addFrom(from, i);
            }
        }

        /** How many events there are as an hour is over. */
        int eventsUntil(int atHour) {
            int many = 0;
            for (int i = 0; i < size && i < EVENTS_ROOM; i++) {
                if (hour[i] <= atHour) {
                    many++;
                }
            }
            return many;
        }

        /** What a place wears behind the first events. */
        int wornBehind(int place, int events) {
            int worn = NONE;
            for (int i = 0; i < events && i < size && i < EVENTS_ROOM; i++) {
                if (one[i] == place && kind[i] == WEAR) {
                    worn = two[i];
                } else if (one[i] == place && kind[i] == BARE) {
                    worn = NONE;
                }
            }
            return worn;
        }

        void readFrom(Tape tape) {
            size = 0;
            // every event has a word's byte, so there are no more rounds than bytes
            for (int i = 0; i <= TAPE_BYTES && tape.hasMore(); i++) {
                readEvent(tape);
            }
        }

        void readEvent(Tape tape) {
            tape.readWord();
            int newKind = eventOfWord(tape);
            tape.refuseWord(newKind == NONE, size >= EVENTS_MOST);
            int newOne = tape.readNumber(0, PLACES - 1);
            int newTwo = 0;
            if (newKind == WEAR) {
                newTwo = tape.readNumber(0, GARMENTS - 1);
            } else if (newKind == TOUCH) {
                newTwo = tape.readNumber(0, PLACES - 1);
                tape.refuseSame(newTwo, newOne);
            } else if (newKind == SHAKE) {
                newTwo = tape.readNumber(0, WHOLE);
            }
            tape.expectWord("at");
            int newHour = tape.readNumber(0, HOURS - 1);
            if (within(size - 1, EVENTS_ROOM) && newHour < hour[size - 1]) {
                tape.fail(TOO_MANY_OR_EARLY, tape.start);
            }
            tape.expectSemicolon();
            if (!tape.failed()) {
                add(newKind, newOne, newTwo, newHour);
            }
        }

        static int eventOfWord(Tape tape) {
            if (tape.wordIs("wear")) {
                return WEAR;
            }
            if (tape.wordIs("bare")) {
                return BARE;
            }
            if (tape.wordIs("touch")) {
                return TOUCH;
            }
            if (tape.wordIs("wash")) {
                return WASH;
            }
            return tape.wordIs("shake") ? SHAKE : NONE;
        }
    }

    /** A story as it goes on, hour by hour, under a law. */
    private static final class Run {
        final int[] lying = new int[PLACES * SORTS];
        final int[] worn = new int[PLACES];
        Law law;
        Story story;
        /** Bits of the places on which something may lie. */
        int laden;
        int hour;
        int done;

        Run(Law law, Story story) {
            this.law = law;
            this.story = story;
        }

        void begin(Law newLaw, Story newStory) {
            law = newLaw;
            story = newStory;
            Arrays.fill(lying, 0);
            Arrays.fill(worn, NONE);
            laden = 0;
            hour = 0;
            done = 0;
        }

        /** Goes on until all events of an hour are done, ahead of what is lost at its end. */
        void goTo(int atHour) {
            for (int h = hour; h <= atHour && h < HOURS; h++) {
                if (h > hour) {
                    loseByHour();
                    hour = h;
                }
                for (int i = done; i < story.size && i < EVENTS_ROOM && story.hour[i] <= h; i++) {
                    doEvent(i);
                    done = i + 1;
                }
            }
        }

        int lyingOn(int place, int sort) {
            return within(place, PLACES) && within(sort, SORTS) ? lying[place * SORTS + sort] : 0;
        }

        int pileOn(int place, int sort) {
            int group = law.alikeWith(sort);
            int sum = 0;
            for (int i = 0; i < SORTS; i++) {
                if ((group >> i & 1) == 1) {
                    sum += lyingOn(place, i) + law.commonOf(i);
                }
            }
            return Math.min(sum, PILE_MOST);
        }

        void doEvent(int event) {
            if (!within(event, EVENTS_ROOM) || !within(story.one[event], PLACES)) {
                return;
            }
            int one = story.one[event];
            int two = story.two[event];
            switch (story.kind[event]) {
                case WEAR:
                    worn[one] = two;
                    break;
                case BARE:
                    worn[one] = NONE;
                    break;
                case TOUCH:
                    touch(one, two);
                    break;
                case WASH:
                    keep(one, law.wash);
                    break;
                case SHAKE:
                    keep(one, two);
                    break;
                default:
                    break;
            }
        }

        void touch(int one, int two) {
            if (!within(one, PLACES) || !within(two, PLACES)) {
                return;
            }
            for (int sort = 0; sort < SORTS; sort++) {
                int onOne = lying[one * SORTS + sort];
                int onTwo = lying[two * SORTS + sort];
                int fromOne = onOne * law.pass / WHOLE;
                int fromTwo = onTwo * law.pass / WHOLE;
                int toOne = fromTwo + law.shedBy(worn[two], sort);
                int toTwo = fromOne + law.shedBy(worn[one], sort);
                lying[one * SORTS + sort] = Math.min(onOne - fromOne + toOne, LIES_MOST);
                lying[two * SORTS + sort] = Math.min(onTwo - fromTwo + toTwo, LIES_MOST);
            }
            laden |= 1 << one | 1 << two;
        }

        void keep(int place, int sixteenths) {
            for (int sort = 0; sort < SORTS && within(place, PLACES); sort++) {
                lying[place * SORTS + sort] = lying[place * SORTS + sort] * sixteenths / WHOLE;
            }
        }

        void loseByHour() {
            for (int place = 0; place < PLACES; place++) {
                if ((laden >> place & 1) == 1) {
                    for (int sort = 0; sort < SORTS; sort++) {
                        int cell = place * SORTS + sort;
                        if (lying[cell] > 0) {
                            lying[cell] = lying[cell] * law.holdOf(sort) / WHOLE;
                        }
                    }
                }
            }
        }
    }

    /** What the tapes took. */
    private static final class Finds {
        final int[] place = new int[FINDS_MOST];
        final int[] hour = new int[FINDS_MOST];
        final int[] sort = new int[FINDS_MOST];
        final int[] many = new int[FINDS_MOST];
        int size;

        int add(int newPlace, int newHour, int newSort, int newMany) {
            if (!within(size, FINDS_MOST)) {
                return NONE;
            }
            place[size] = newPlace;
            hour[size] = newHour;
            sort[size] = newSort;
            many[size] = newMany;
            size++;
            return size - 1;
        }

        void takeBack(int index) {
            if (!within(index, size)) {
                return;
            }
            for (int i = index; i < size - 1 && i < FINDS_MOST - 1; i++) {
                place[i] = place[i + 1];
                hour[i] = hour[i + 1];
                sort[i] = sort[i + 1];
                many[i] = many[i + 1];
            }
            size--;
        }

        void copy(Finds from) {
            size = 0;
            for (int i = 0; i < from.size && i < FINDS_MOST; i++) {
                add(from.place[i], from.hour[i], from.sort[i], from.many[i]);
            }
        }

        int lastHour() {
            int last = NONE;
            for (int i = 0; i < size && i < FINDS_MOST; i++) {
                last = Math.max(last, hour[i]);
            }
            return last;
        }

        boolean lookedAt(int atPlace, int atHour, int sorts) {
            for (int i = 0; i < size && i < FINDS_MOST; i++) {
                if (place[i] == atPlace && hour[i] == atHour && (sorts >> sort[i] & 1) == 1) {
                    return true;
                }
            }
            return false;
        }
    }

    /** Which sorts were found on the seats, ten bits each. */
    private static final class Seats {
        final int[] sorts = new int[SEATS_MOST];
        int size;

        int add(int newSorts) {
            if (!within(size, SEATS_MOST)) {
                return NONE;
            }
            sorts[size] = newSorts;
            size++;
            return size;
        }

        void copy(Seats from) {
            size = 0;
            for (int i = 0; i < from.size && i < SEATS_MOST; i++) {
                add(from.sorts[i]);
            }
        }

        int having(int wanted) {
            int many = 0;
            for (int i = 0; i < size && i < SEATS_MOST; i++) {
                if ((sorts[i] & wanted) == wanted) {
                    many++;
                }
            }
            return many;
        }
    }

    /** How much of a sort was sold, of how much in all. */
    private static final class Shops {
        final int[] sort = new int[SHOPS_MOST];
        final int[] sold = new int[SHOPS_MOST];
        final int[] all = new int[SHOPS_MOST];
        int size;

        int add(int newSort, int newSold, int newAll) {
            if (!within(size, SHOPS_MOST)) {
                return NONE;
            }
            sort[size] = newSort;
            sold[size] = newSold;
            all[size] = newAll;
            size++;
            return size;
        }

        void copy(Shops from) {
            size = 0;
            for (int i = 0; i < from.size && i < SHOPS_MOST; i++) {
                add(from.sort[i], from.sold[i], from.all[i]);
            }
        }

        int rareInAll(int ofSort) {
            long soldTogether = 0;
            long allTogether = 0;
            for (int i = 0; i < size && i < SHOPS_MOST; i++) {
                if (sort[i] == ofSort) {
                    soldTogether += sold[i];
                    allTogether += all[i];
                }
            }
            return thousandths(soldTogether, allTogether);
        }

        int rareAtLeast(int ofSort) {
            int least = NONE;
            for (int i = 0; i < size && i < SHOPS_MOST; i++) {
                if (sort[i] == ofSort) {
                    int single = thousandths(sold[i], all[i]);
                    least = least == NONE ? single : Math.min(least, single);
                }
            }
            return least;
        }

        int rareAtMost(int ofSort) {
            int greatest = NONE;
            for (int i = 0; i < size && i < SHOPS_MOST; i++) {
                if (sort[i] == ofSort) {
                    greatest = Math.max(greatest, thousandths(sold[i], all[i]));
                }
            }
            return greatest;
        }

        static int thousandths(long some, long whole) {
            return whole > 0 ? (int) (1000 * some / whole) : NONE;
        }
    }

    /** All that an image holds. */
    private static final class Evidence {
        final Finds finds = new Finds();
        final Seats seats = new Seats();
        final Shops shops = new Shops();

        void copy(Evidence from) {
            finds.copy(from.finds);
            seats.copy(from.seats);
            shops.copy(from.shops);
        }
    }

    /** A whole number of nine decimal digits a limb, the lowest limb first; 0 has no limbs. */
    private static final class Great {
        static final long BASE = 1000000000L;
        static final int LIMB_DIGITS = 9;
        /** Two numbers of 480 hexadecimal digits together have 129 limbs; a factor of a million adds one. */
        static final int LIMBS = 136;
        /** A factor may have two limbs, so that one more power of at most 16 still fits behind this. */
        static final long FACTOR_MOST = 10000000000000000L;

        final int[] limbs = new int[LIMBS];
        int size;

        void setOne() {
            limbs[0] = 1;
            size = 1;
        }

        void copy(Great from) {
            size = Math.max(0, Math.min(from.size, LIMBS));
            System.arraycopy(from.limbs, 0, limbs, 0, size);
        }

        boolean isZero() {
            return size == 0;
        }

        /** Times a factor from 0 to below BASE times BASE. */
        void times(long factor) {
            long high = factor / BASE;
            long low = factor % BASE;
            long before = 0;
            long carry = 0;
            int top = 0;
            // two limbs more take what the last limb and the carry leave
            int end = Math.min(size + 3, LIMBS);
            for (int i = 0; i < end; i++) {
                long limb = i < size ? limbs[i] : 0;
                long sum = limb * low + before * high + carry;
                before = limb;
                carry = sum / BASE;
                limbs[i] = (int) (sum % BASE);
                if (limbs[i] != 0) {
                    top = i + 1;
                }
            }
            size = top;
        }

        /** Times base to the power of exponent; nothing happens if that is below 1. */
        void timesPower(int base, int exponent) {
            long factor = 1;
            for (int i = 0; i < exponent; i++) {
                factor *= base;
                if (factor > FACTOR_MOST) {
                    times(factor);
                    factor = 1;
                }
            }
            if (factor > 1) {
                times(factor);
            }
        }

        int compareWith(Great other) {
            if (size != other.size) {
                return size > other.size ? 1 : -1;
            }
            for (int i = Math.min(size, LIMBS) - 1; i >= 0; i--) {
                if (limbs[i] != other.limbs[i]) {
                    return limbs[i] > other.limbs[i] ? 1 : -1;
                }
            }
            return 0;
        }

        int howManyDigits() {
            if (!within(size - 1, LIMBS)) {
                return 1;
            }
            int many = (size - 1) * LIMB_DIGITS;
            int top = limbs[size - 1];
            for (int i = 0; i < LIMB_DIGITS && top > 0; i++) {
                many++;
                top /= 10;
            }
            return many;
        }

        int digitAt(int k) {
            if (!within(k, howManyDigits())) {
                return NONE;
            }
            int limb = k / LIMB_DIGITS;
            int rest = within(limb, size) && within(limb, LIMBS) ? limbs[limb] : 0;
            for (int i = 0; i < k % LIMB_DIGITS; i++) {
                rest /= 10;
            }
            return rest % 10;
        }
    }

    /** How likely finds are: a number, by 16 to the power of a scale. */
    private static final class Chance {
        final Great number = new Great();
        int scale;

        void begin() {
            number.setOne();
            scale = 0;
        }

        void times(int pile, int many, int take) {
            number.times(waysToChoose(pile, many));
            number.timesPower(take, many);
            number.timesPower(WHOLE - take, pile - many);
            scale += pile;
        }

        /** At most 60 over 30, which times 60 still fits a long; 0 if there are too few. */
        static long waysToChoose(int all, int many) {
            if (many > all) {
                return 0;
            }
            int less = Math.min(many, all - many);
            long ways = 1;
            for (int i = 0; i < less; i++) {
                ways = ways * (all - i) / (i + 1);
            }
            return ways;
        }
    }

    /** Two chances brought to one scale and weighed. */
    private static final class Balance {
        final Chance first = new Chance();
        final Chance second = new Chance();
        final Great left = new Great();
        final Great right = new Great();
        final Great trial = new Great();

        void level() {
            left.copy(first.number);
            right.copy(second.number);
            left.timesPower(WHOLE, second.scale - first.scale);
            right.timesPower(WHOLE, first.scale - second.scale);
        }

        int compared() {
            level();
            return left.compareWith(right);
        }

        /** The greatest m up to WORTH_MOST such that the left is m times the right or more. */
        int ratio() {
            level();
            if (right.isZero()) {
                return left.isZero() ? 0 : WORTH_MOST;
            }
            int low = 0;
            int high = WORTH_MOST;
            for (int step = 0; step < 32 && low < high; step++) {
                int middle = (low + high + 1) / 2;
                trial.copy(right);
                trial.times(middle);
                if (trial.compareWith(left) <= 0) {
                    low = middle;
                } else {
                    high = middle - 1;
                }
            }
            return low;
        }
    }
}
