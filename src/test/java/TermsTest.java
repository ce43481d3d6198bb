/** The sentences under "Terms": laws, stories and their faults, at each bound, just within and just beyond it. */
public final class TermsTest {
    public static void main(String[] args) {
        numbersOfThings();
        lawBytes();
        shed();
        hold();
        wash();
        pass();
        take();
        alike();
        common();
        without();
        lastCounts();
        clauses();
        storiesFour();
        storyBytes();
        events();
        eventWords();
        digits();
        words();
        blanks();
        everyByte();
        firstFromTheLeft();
        endsTooEarly();
        noSuchNumbers();
        tooManyOrEarly();
        theLeast();
        Check.end("TermsTest");
    }

    /** A number of a law's text may be low to high; beyond that it is a fault at its first digit. */
    private static void lawBounds(String ahead, String behind, int low, int high) {
        for (int value : new int[] {low, low + 1, high - 1, high}) {
            Check.dueLaw(ahead + value + behind, 1);
        }
        if (low > 0) {
            Check.dueLawFault(ahead + (low - 1) + behind, 2, ahead.length());
        }
        Check.dueLawFault(ahead + "-1" + behind, 1, ahead.length());
        Check.dueLawFault(ahead + (high + 1) + behind, 2, ahead.length());
        Check.dueLawFault(ahead + (high + 2) + behind, 2, ahead.length());
        Check.dueLawFault(ahead + high + "0" + behind, 2, ahead.length());
        Check.dueLawFault(ahead + "4294967296" + behind, 2, ahead.length());
    }

    private static void storyBounds(String ahead, String behind, int high) {
        for (int value : new int[] {0, 1, high - 1, high}) {
            Check.dueStory(ahead + value + behind, 1);
        }
        Check.dueStoryFault(ahead + "-1" + behind, 1, ahead.length());
        Check.dueStoryFault(ahead + (high + 1) + behind, 2, ahead.length());
        Check.dueStoryFault(ahead + (high + 2) + behind, 2, ahead.length());
        Check.dueStoryFault(ahead + high + "0" + behind, 2, ahead.length());
        Check.dueStoryFault(ahead + "4294967296" + behind, 2, ahead.length());
    }

    private static void numbersOfThings() {
        Check.sentence("SORTS 0 to 9, GARMENTS 0 to 7, PLACES 0 to 9 (people, seats, cars), HOURS 0 to 99.");
        lawBounds("shed ", " 0 1;", 0, 7);
        lawBounds("shed 0 ", " 1;", 0, 9);
        storyBounds("wear ", " 0 at 0;", 9);
        storyBounds("wear 0 ", " at 0;", 7);
        storyBounds("wear 0 0 at ", ";", 99);
        WoolThreads x = Check.with("shed 7 9 5;shed 0 0 6;", "wear 9 7 at 0;wear 0 0 at 0;touch 9 0 at 0;touch 0 9 at 99;");
        Check.due("sort 9 of garment 7 on place 0", x.lies(0, 0, 9, 0), 5);
        Check.due("sort 0 of garment 0 on place 9", x.lies(0, 9, 0, 0), 6);
        Check.due("sort 9 at hour 98", x.lies(0, 0, 9, 98), 5);
        Check.due("sort 9 at hour 99", x.lies(0, 0, 9, 99), 10);
        Check.due("sort 0 at hour 99", x.lies(0, 9, 0, 99), 12);
        Check.iae(x, "place 10", () -> x.lies(0, 10, 9, 99));
        Check.iae(x, "sort 10", () -> x.lies(0, 9, 10, 99));
        Check.iae(x, "hour 100", () -> x.lies(0, 9, 9, 100));
        Check.iae(x, "garment 8", () -> x.sheds(8, 9));
    }

    private static void lawBytes() {
        Check.sentence("The LAW is a text of up to 400 bytes: { CLAUSE \";\" }.");
        Check.dueLaw("", 0);
        Check.dueLaw("wash 7;", 1);
        for (int length : new int[] {399, 400}) {
            String text = " ".repeat(length - 7) + "wash 7;";
            Check.dueLaw(text, 1);
            Check.dueLawFault(text.substring(0, length - 1) + "?", 1, length - 1);
            Check.dueLawFault(" ".repeat(length - 6) + "wash 7", 1, length);
        }
        WoolThreads x = new WoolThreads();
        Check.feed(x, " ".repeat(400));
        Check.due("a 401st byte can't be fed", x.feed(0, 0, 0, 0, 0), WoolThreads.NONE);
        Check.iae(x, "law(401)", () -> x.law(401));
        Check.due("law(400)", x.law(400), 0);
        String full = "shed 7 9 200;".repeat(24);
        Check.dueLaw(full + " ".repeat(400 - full.length()), 24);
    }

    private static void shed() {
        Check.sentence("CLAUSE: \"shed\" G S N (a GARMENT sheds N threads of a SORT at a touch, 0 to 200)");
        lawBounds("shed 3 4 ", ";", 0, 200);
        for (int threads : new int[] {0, 1, 199, 200}) {
            WoolThreads x = Check.with("shed 3 4 " + threads + ";", "wear 1 3 at 0;touch 1 2 at 0;touch 2 1 at 1;");
            Check.due("sheds " + threads, x.sheds(3, 4), threads);
            Check.due("a touch of " + threads, x.lies(0, 2, 4, 0), threads);
            Check.due("two touches of " + threads, x.lies(0, 2, 4, 1), 2 * threads);
            Check.due("nothing on itself", x.lies(0, 1, 4, 1), 0);
        }
    }

    private static void hold() {
        Check.sentence("\"hold\" S N (of 16 threads N stay for an hour, 0 to 16)");
        lawBounds("hold 4 ", ";", 0, 16);
        lawBounds("hold ", " 3;", 0, 9);
        for (int stay : new int[] {0, 1, 15, 16}) {
            WoolThreads x = Check.with("hold 4 " + stay + ";shed 0 4 16;shed 0 5 16;", "wear 1 0 at 0;touch 1 2 at 0;");
            Check.due("hold " + stay, x.told(4, 0), stay);
            Check.due("of 16 threads", x.lies(0, 2, 4, 0), 16);
            Check.due("of 16 threads an hour on", x.lies(0, 2, 4, 1), stay);
            Check.due("of another sort", x.lies(0, 2, 5, 1), 16);
        }
    }

    private static void wash() {
        Check.sentence("\"wash\" N (of 16)");
        lawBounds("wash ", ";", 0, 16);
        for (int stay : new int[] {0, 1, 15, 16}) {
            WoolThreads x = Check.with("wash " + stay + ";shed 0 4 16;", "wear 1 0 at 0;touch 1 2 at 0;wash 2 at 1;");
            Check.due("wash " + stay, x.told(4, 2), stay);
            Check.due("of 16 threads", x.lies(0, 2, 4, 0), 16);
            Check.due("of 16 threads washed", x.lies(0, 2, 4, 1), stay);
        }
    }

    private static void pass() {
        Check.sentence("\"pass\" N (of 16, 0 to 8)");
        lawBounds("pass ", ";", 0, 8);
        for (int over : new int[] {0, 1, 7, 8}) {
            WoolThreads x = Check.with("pass " + over + ";shed 0 4 16;", "wear 1 0 at 0;touch 1 2 at 0;touch 2 3 at 1;");
            Check.due("pass " + over, x.told(4, 3), over);
            Check.due("what stays of 16", x.lies(0, 2, 4, 1), 16 - over);
            Check.due("what goes over of 16", x.lies(0, 3, 4, 1), over);
        }
    }

    private static void take() {
        Check.sentence("\"take\" N (a tape takes each thread with N of 16, 1 to 15)");
        lawBounds("take ", ";", 1, 15);
        for (int take : new int[] {1, 2, 14, 15}) {
            WoolThreads x = Check.with("take " + take + ";common 0 1;", "");
            Check.due("take " + take, x.told(0, 4), take);
            x.find(0, 0, 0, 1);
            Check.due("the one thread is taken", 10 * Math.max(0, x.digit(0, 1)) + x.digit(0, 0), take);
            x.drop(0);
            x.find(0, 0, 0, 0);
            Check.due("the one thread is not taken", 10 * Math.max(0, x.digit(0, 1)) + x.digit(0, 0), 16 - take);
            Check.due("of 16", x.scale(0), 1);
        }
    }

    private static void alike() {
        Check.sentence("\"alike\" S S (a glass tells them alike)");
        lawBounds("alike ", " 4;", 0, 9);
        lawBounds("alike 4 ", ";", 0, 9);
        Check.dueLawFault("alike 4 4;", 2, 8);
        WoolThreads x = Check.with("alike 0 9;common 0 3;common 9 4;", "");
        Check.due("alike(0)", x.alike(0), 513);
        Check.due("alike(9)", x.alike(9), 513);
        Check.due("pile of 0", x.pile(0, 0, 0, 0), 7);
        Check.due("pile of 9", x.pile(0, 0, 9, 0), 7);
    }

    private static void common() {
        Check.sentence("\"common\" S N (as many lie everywhere, 0 to 20)");
        lawBounds("common 4 ", ";", 0, 20);
        lawBounds("common ", " 3;", 0, 9);
        for (int many : new int[] {0, 1, 19, 20}) {
            WoolThreads x = Check.with("common 4 " + many + ";hold 4 0;", "");
            Check.due("common " + many, x.told(4, 1), many);
            for (int place = 0; place < 10; place++) {
                Check.due("everywhere", x.pile(0, place, 4, 0), many);
                Check.due("at all hours", x.pile(0, place, 4, 99), many);
                Check.due("but not in LIES", x.lies(0, place, 4, 0), 0);
            }
        }
    }

    private static void without() {
        Check.sentence("Without: nothing is shed, hold 16, wash 0, pass 0, take 8, nothing alike, common 0");
        WoolThreads x = new WoolThreads();
        Check.story(x, "wear 0 0 at 0;touch 0 1 at 0;");
        for (int sort = 0; sort < 10; sort++) {
            Check.due("nothing is shed", x.lies(0, 1, sort, 0), 0);
            Check.due("nothing alike", x.alike(sort), 1 << sort);
            Check.due("common 0", x.pile(0, 1, sort, 0), 0);
        }
        WoolThreads y = Check.with("shed 0 0 100;", "wear 0 0 at 0;touch 0 1 at 0;touch 1 2 at 1;", "wear 0 0 at 0;touch 0 1 at 0;wash 1 at 0;");
        Check.due("hold 16", y.lies(0, 1, 0, 99), 100);
        Check.due("pass 0", y.lies(0, 2, 0, 1), 0);
        Check.due("wash 0", y.lies(1, 1, 0, 0), 0);
        y.find(1, 0, 0, 0);
        Check.due("take 8: a pile of 60", y.worth(1, 0), 1000000);
        WoolThreads z = Check.with("common 0 3;", "");
        z.find(0, 0, 0, 1);
        // 3 * 8 * 8 * 8
        Check.due("take 8: the number", z.digits(0) * 10 + z.digit(0, 3), 41);
        Check.due("take 8: its lowest digit", z.digit(0, 0), 6);
    }

    private static void lastCounts() {
        Check.sentence("the last CLAUSE of a kind (and SORT, GARMENT) counts; alike ones all.");
        WoolThreads x = Check.with("shed 1 2 3;shed 1 2 4;shed 1 3 5;shed 2 2 6;hold 1 3;hold 1 4;hold 2 5;common 1 3;common 1 4;common 2 5;");
        Check.due("the last of GARMENT 1, SORT 2", x.sheds(1, 2), 4);
        Check.due("of GARMENT 1, SORT 3", x.sheds(1, 3), 5);
        Check.due("of GARMENT 2, SORT 2", x.sheds(2, 2), 6);
        Check.due("the last hold of SORT 1", x.told(1, 0), 4);
        Check.due("hold of SORT 2", x.told(2, 0), 5);
        Check.due("the last common of SORT 1", x.told(1, 1), 4);
        Check.due("common of SORT 2", x.told(2, 1), 5);
        Check.due("all count as clauses", x.count(0), 10);
        WoolThreads y = Check.with("wash 1;pass 1;take 1;alike 0 1;wash 2;pass 2;take 2;alike 0 2;wash 0;pass 0;take 3;alike 0 1;");
        Check.due("the last wash", y.told(0, 2), 0);
        Check.due("the last pass", y.told(0, 3), 0);
        Check.due("the last take", y.told(0, 4), 3);
        Check.due("all alike ones", y.alike(0), 7);
        Check.due("all of them count", y.count(0), 12);
    }

    private static void clauses() {
        Check.sentence("At most 24 CLAUSES.");
        Check.dueLaw("wash 1;".repeat(23), 23);
        Check.dueLaw("wash 1;".repeat(24), 24);
        Check.dueLaw("wash 1;".repeat(24) + "  ", 24);
        Check.dueLawFault("wash 1;".repeat(25), 3, 168);
        Check.dueLawFault("wash 1;".repeat(26), 3, 168);
    }

    private static void storiesFour() {
        Check.sentence("STORIES, numbered from 0 on, 4 at most");
        WoolThreads x = new WoolThreads();
        for (int i = 0; i < 4; i++) {
            Check.due("story " + i, Check.story(x, "bare 0 at 0;".repeat(i)), i);
            Check.due("stories", x.count(1), i + 1);
            int beyond = i + 1;
            Check.nse(x, "events of the one beyond", () -> x.events(beyond));
        }
        Check.due("a fifth", Check.story(x, ""), -1);
        Check.due("stories", x.count(1), 4);
        for (int i = 0; i < 4; i++) {
            Check.due("events(" + i + ")", x.events(i), i);
        }
    }

    private static void storyBytes() {
        Check.sentence("are texts of up to 300 bytes: { EVENT \";\" }");
        Check.dueStory("", 0);
        for (int length : new int[] {299, 300}) {
            Check.dueStory(" ".repeat(length - 12) + "bare 0 at 1;", 1);
            Check.dueStoryFault(" ".repeat(length - 12) + "bare 0 at 1?", 1, length - 1);
            Check.dueStoryFault(" ".repeat(length - 11) + "bare 0 at 1", 1, length);
        }
        WoolThreads x = new WoolThreads();
        Check.feed(x, " ".repeat(320));
        Check.iae(x, "story(301)", () -> x.story(301));
        Check.iae(x, "story(320)", () -> x.story(320));
        Check.due("the tape stays", x.count(6), 320);
        Check.due("story(300)", x.story(300), 0);
    }

    private static void events() {
        Check.sentence(", at most 20.");
        Check.dueStory("bare 0 at 1;".repeat(19), 19);
        Check.dueStory("bare 0 at 1;".repeat(20), 20);
        Check.dueStory("bare 0 at 1;".repeat(20) + "  ", 20);
        Check.dueStoryFault("bare 0 at 1;".repeat(21), 3, 240);
        Check.dueStoryFault("bare 0 at 1;".repeat(22), 3, 240);
    }

    private static void eventWords() {
        Check.sentence("EVENT: \"wear\" P G, \"bare\" P, \"touch\" P P, \"wash\" P, or \"shake\" P N (of 16 threads N stay), each with \"at\" H.");
        storyBounds("bare ", " at 0;", 9);
        storyBounds("bare 0 at ", ";", 99);
        storyBounds("touch ", " 4 at 0;", 9);
        storyBounds("touch 4 ", " at 0;", 9);
        storyBounds("touch 0 4 at ", ";", 99);
        storyBounds("wash ", " at 0;", 9);
        storyBounds("wash 0 at ", ";", 99);
        storyBounds("shake ", " 0 at 0;", 9);
        storyBounds("shake 0 ", " at 0;", 16);
        storyBounds("shake 0 0 at ", ";", 99);
        for (String event : new String[] {"wear 0 0", "bare 0", "touch 0 1", "wash 0", "shake 0 0"}) {
            Check.dueStory(event + " at 0;", 1);
            Check.dueStoryFault(event + ";", 1, event.length());
            Check.dueStoryFault(event + " 0 at 0;", 1, event.length() + 1);
            Check.dueStoryFault(event + " 0;", 1, event.length() + 1);
        }
        for (String law : new String[] {"shed 0 0 0;", "hold 0 0;", "pass 0;", "take 1;", "alike 0 1;", "common 0 0;", "at 0;"}) {
            Check.dueStoryFault(law, 1, 0);
        }
        for (String event : new String[] {"wear 0 0 at 0;", "bare 0 at 0;", "touch 0 1 at 0;", "shake 0 0 at 0;", "at 0;"}) {
            Check.dueLawFault(event, 1, 0);
        }
        // the one word that both have asks for something else in each
        Check.dueStoryFault("wash 0;", 1, 6);
        Check.dueLawFault("wash 0 at 0;", 1, 7);
        for (int stay : new int[] {0, 1, 15, 16}) {
            WoolThreads x = Check.with("shed 0 0 16;", "wear 0 0 at 0;touch 0 1 at 0;shake 1 " + stay + " at 0;");
            Check.due("shake of 16 threads", x.lies(0, 1, 0, 0), stay);
        }
    }

    private static void digits() {
        Check.sentence("S, G, P, H, N: digits, as many as stand there.");
        String zeros = "0".repeat(90);
        Check.dueLaw("shed " + zeros + "7 " + zeros + "9 " + zeros + "200;", 1);
        Check.dueLaw("wash " + "0".repeat(394) + ";", 1);
        Check.dueLawFault("wash " + "9".repeat(394) + ";", 2, 5);
        Check.dueLawFault("wash " + "0".repeat(392) + "17;", 2, 5);
        Check.dueStory("wear " + zeros + "9 " + zeros + "7 at " + zeros + "99;", 1);
        Check.dueStoryFault("bare " + zeros + "10 at 0;", 2, 5);
        // 2 to the power of 32 and of 64, and what is just above them
        for (String great : new String[] {"4294967296", "4294967297", "18446744073709551616", "18446744073709551617"}) {
            Check.dueLawFault("wash " + great + ";", 2, 5);
            Check.dueStoryFault("bare " + great + " at 0;", 2, 5);
            Check.dueStoryFault("bare 0 at " + great + ";", 2, 10);
        }
        // digits that stand together are one number
        Check.dueLawFault("hold 19;", 2, 5);
        Check.dueStoryFault("touch 01 at 0;", 1, 9);
    }

    private static void words() {
        Check.sentence("WORDS: small letters, as many as stand there");
        for (String word : new String[] {"s", "she", "shedd", "sshed", "shedhold", "SHED", "sheD", "thed", "shad"}) {
            Check.dueLawFault(word + " 0 0 0;", 1, 0);
        }
        Check.dueLawFault("shed_ 0 0 0;", 1, 4);
        Check.dueLawFault("shedX 0 0 0;", 1, 4);
        Check.dueLawFault("sh ed 0 0 0;", 1, 0);
        Check.dueLawFault("a".repeat(400), 1, 0);
        Check.dueStoryFault("bare 0 atat 0;", 1, 7);
        Check.dueStoryFault("bare 0 a t 0;", 1, 7);
        Check.dueStoryFault("bare 0 AT 0;", 1, 7);
        Check.dueStoryFault("bare 0 wear 0;", 1, 7);
        Check.dueStoryFault("barebare 0 at 0;", 1, 0);
        // a word ends at a digit, and a number at a letter
        Check.dueLaw("shed0 0 0;hold0 0;wash0;pass0;take1;alike0 1;common0 0;", 7);
        Check.dueStory("wear0 0at0;bare0at0;touch0 1at0;wash0at0;shake0 0at0;", 5);
    }

    private static void blanks() {
        Check.sentence("blanks (32) may stand ahead of all these, and at the end.");
        String[] law = {"shed", "7", "9", "200", ";", "hold", "9", "16", ";", "wash", "16", ";", "pass", "8", ";", "take", "15", ";",
            "alike", "0", "9", ";", "common", "9", "20", ";"};
        String[] story = {"wear", "9", "7", "at", "99", ";", "bare", "9", "at", "99", ";", "touch", "0", "9", "at", "99", ";",
            "wash", "9", "at", "99", ";", "shake", "9", "16", "at", "99", ";"};
        for (int many : new int[] {1, 2, 4, 7}) {
            String gap = " ".repeat(many);
            Check.dueLaw(gap + String.join(gap, law) + gap, 7);
            Check.dueStory(gap + String.join(gap, story) + gap, 5);
            Check.dueLaw(gap, 0);
            Check.dueStory(gap, 0);
            Check.dueLaw("wash 1;" + gap, 1);
            Check.dueLaw(gap + "wash 1;", 1);
        }
    }

    /** Every byte in the place of a blank: ahead of a text, of a number, of its end, and behind all. */
    private static void everyByte() {
        Check.sentence("1 what can't stand there");
        for (char sign = 0; sign < 256; sign++) {
            boolean blank = sign == ' ';
            boolean digit = sign >= '0' && sign <= '9';
            boolean letter = sign >= 'a' && sign <= 'z';
            dueLawOr(sign + "wash 1;", blank, 1, 0);
            dueLawOr("wash 1;" + sign, blank, 1, 7);
            if (digit) {
                dueLawOr("wash" + sign + "1;", sign <= '1', 2, 4);
                dueLawOr("wash 1" + sign + ";", sign <= '6', 2, 5);
                dueLawOr("wash " + sign + ";", true, 0, 0);
            } else {
                dueLawOr("wash" + sign + "1;", blank, 1, letter ? 0 : 4);
                dueLawOr("wash 1" + sign + ";", blank || sign == ';', 1, 6);
                dueLawOr("wash " + sign + ";", false, 1, blank ? 6 : 5);
            }
        }
    }

    /** One clause, or a fault; a second semicolon is no clause. */
    private static void dueLawOr(String text, boolean right, int kind, int place) {
        if (text.endsWith(";;")) {
            Check.dueLawFault(text, 1, text.equals("wash ;;") ? 5 : text.length() - 1);
        } else if (right) {
            Check.dueLaw(text, 1);
        } else {
            Check.dueLawFault(text, kind, place);
        }
    }

    private static void firstFromTheLeft() {
        Check.sentence("FAULTS (of both), the first from the left, at its first byte");
        Check.dueLawFault("wash 17;wash 18;?", 2, 5);
        Check.dueLawFault("wash ?;wash 18;", 1, 5);
        Check.dueLawFault("wash 1;wash 18;?", 2, 12);
        Check.dueLawFault("shed 8 10 201;", 2, 5);
        Check.dueLawFault("shed 7 10 201;", 2, 7);
        Check.dueLawFault("shed 7 9 201;", 2, 9);
        Check.dueLawFault("shed 7 9   0201 x", 2, 11);
        Check.dueLawFault("alike 4 4 4", 2, 8);
        Check.dueStoryFault("wear 10 8 at 100;", 2, 5);
        Check.dueStoryFault("wear 9 8 at 100;", 2, 7);
        Check.dueStoryFault("wear 9 7 at 100;", 2, 12);
        Check.dueStoryFault("wear 9 7 bt 100;", 1, 9);
        Check.dueStoryFault("bare 0 at 5;bare 0 at 4;bare 10 at 3;", 3, 22);
        Check.dueStoryFault("bare 0 at 5;bare 10 at 4;", 2, 17);
        Check.dueStoryFault("bare 0 at 5;bare 0 it 4;", 1, 19);
        Check.dueStoryFault("bare 0 at 5;bare 0 at 4?", 3, 22);
    }

    /** A good text cut short anywhere is at fault at its length, unless a word is cut: then that is none such. */
    private static void endsTooEarly() {
        Check.sentence("(at the length, if the text ends too early)");
        String law = " shed  7 9 200 ;hold 9 16;wash 16;pass 8;take 15;alike 0 9;common 9 20; ";
        String story = " wear  9 7 at 0 ;bare 9 at 0;touch 0 9 at 1;wash 9 at 9;shake 9 16 at 99; ";
        for (int length = 0; length <= law.length(); length++) {
            String cut = law.substring(0, length);
            if (wholeClauses(cut) >= 0) {
                Check.dueLaw(cut, wholeClauses(cut));
            } else {
                Check.dueLawFault(cut, 1, faultOfCut(law, length));
            }
        }
        for (int length = 0; length <= story.length(); length++) {
            String cut = story.substring(0, length);
            if (wholeClauses(cut) >= 0) {
                Check.dueStory(cut, wholeClauses(cut));
            } else {
                Check.dueStoryFault(cut, 1, faultOfCut(story, length));
            }
        }
    }

    private static int wholeClauses(String text) {
        String bare = text.trim();
        return bare.isEmpty() || bare.endsWith(";") ? (int) text.chars().filter(c -> c == ';').count() : -1;
    }

    private static int faultOfCut(String text, int length) {
        boolean cutWord = Character.isLetter(text.charAt(length - 1)) && Character.isLetter(text.charAt(length));
        int place = length;
        while (cutWord && place > 0 && Character.isLetter(text.charAt(place - 1))) {
            place--;
        }
        return place;
    }

    private static void noSuchNumbers() {
        Check.sentence("2 a number that is none such (an N, S, G, P or H beyond its bounds; a second P or S that is the first)");
        Check.dueLawFault("shed 0 0 201;", 2, 9);
        Check.dueLawFault("hold 10 1;", 2, 5);
        Check.dueLawFault("shed 8 0 1;", 2, 5);
        Check.dueLawFault("take 0;", 2, 5);
        Check.dueStoryFault("bare 10 at 0;", 2, 5);
        Check.dueStoryFault("bare 1 at 100;", 2, 10);
        for (int same = 0; same < 10; same++) {
            Check.dueLawFault("alike " + same + " " + same + ";", 2, 8);
            Check.dueLawFault("alike " + same + " 00" + same + ";", 2, 8);
            Check.dueLawFault("alike 00" + same + "  " + same + ";", 2, 11);
            Check.dueStoryFault("touch " + same + " " + same + " at 1;", 2, 8);
            Check.dueStoryFault("touch " + same + " 00" + same + " at 1;", 2, 8);
            Check.dueLaw("alike " + same + " " + (same + 1) % 10 + ";", 1);
            Check.dueStory("touch " + same + " " + (same + 9) % 10 + " at 1;", 1);
        }
        // other numbers may be those ahead of them
        Check.dueLaw("shed 3 3 3;hold 3 3;common 3 3;", 3);
        Check.dueStory("wear 3 3 at 3;shake 3 3 at 3;touch 3 4 at 4;", 3);
    }

    private static void tooManyOrEarly() {
        Check.sentence("3 a 25th CLAUSE, a 21st EVENT, or an EVENT whose H is below that of the one ahead (at the H)");
        Check.dueLaw("wash 1;".repeat(24), 24);
        Check.dueLawFault("wash 1;".repeat(24) + "   pass 1;", 3, 171);
        Check.dueLawFault("wash 1;".repeat(24) + "pass 9;", 3, 168);
        Check.dueLawFault("wash 1;".repeat(24) + "pass", 3, 168);
        Check.dueStory("bare 0 at 1;".repeat(20), 20);
        Check.dueStoryFault("bare 0 at 1;".repeat(20) + "   bare 0 at 1;", 3, 243);
        Check.dueStoryFault("bare 0 at 1;".repeat(20) + "bare 10 at 0;", 3, 240);
        Check.dueStoryFault("bare 0 at 1;".repeat(20) + "touch", 3, 240);
        for (int hour : new int[] {1, 2, 50, 98, 99}) {
            String ahead = "bare 0 at " + hour + ";";
            int place = ahead.length() + 10;
            Check.dueStory(ahead + "bare 0 at " + hour + ";", 2);
            Check.dueStory(ahead + "bare 0 at " + Math.min(99, hour + 1) + ";", 2);
            Check.dueStoryFault(ahead + "bare 0 at " + (hour - 1) + ";", 3, place);
            Check.dueStoryFault(ahead + "bare 0 at 0;", 3, place);
            Check.dueStoryFault(ahead + "bare 0 at    00" + (hour - 1) + ";", 3, place + 3);
        }
        // the one ahead counts, not the greatest
        Check.dueStory("bare 0 at 0;bare 0 at 1;bare 0 at 1;bare 0 at 9;", 4);
        Check.dueStoryFault("bare 0 at 0;bare 0 at 9;bare 0 at 9;bare 0 at 8;", 3, 46);
    }

    private static void theLeast() {
        Check.sentence("of one the least.");
        // at one byte stand a word that is none such and one too many
        Check.dueLawFault("wash 1;".repeat(24) + "wish 1;", 1, 168);
        Check.dueLawFault("wash 1;".repeat(24) + "?", 1, 168);
        Check.dueLawFault("wash 1;".repeat(24) + "bare 0 at 1;", 1, 168);
        Check.dueLawFault("wash 1;".repeat(24) + ";", 1, 168);
        Check.dueLawFault("wash 1;".repeat(24) + "1;", 1, 168);
        Check.dueStoryFault("bare 0 at 1;".repeat(20) + "bore 0 at 1;", 1, 240);
        Check.dueStoryFault("bare 0 at 1;".repeat(20) + "?", 1, 240);
        Check.dueStoryFault("bare 0 at 1;".repeat(20) + "shed 0 0 1;", 1, 240);
        Check.dueStoryFault("bare 0 at 1;".repeat(20) + ";", 1, 240);
        // an hour beyond all is none such, not one that is too early
        Check.dueStoryFault("bare 0 at 99;bare 0 at 100;", 2, 23);
    }
}
