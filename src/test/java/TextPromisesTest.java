/** Promises 1 to 8 and 37, each under its own words: a new object, texts, what the law tells, and counts. */
public final class TextPromisesTest {
    public static void main(String[] args) {
        calls();
        promise1();
        promise2();
        promise3();
        firstBytesOfALaw();
        nothingOfLawsAhead();
        promise3Refused();
        promise4();
        firstBytesOfAStory();
        promise4Refused();
        promise5();
        promise6();
        promise7();
        promise8();
        promise37();
        Check.end("TextPromisesTest");
    }

    private static void calls() {
        Check.sentence("An object is used for at most 512 calls after it has been made");
        WoolThreads x = new WoolThreads();
        for (int i = 1; i < 512; i++) {
            Check.due("call " + i, x.seat(1), i <= 40 ? i : -1);
        }
        Check.due("call 512", x.share(0), 40);
    }

    private static void promise1() {
        Check.promise(1, "The LAW is empty; no STORIES, FINDS.");
        WoolThreads x = new WoolThreads();
        Check.due("no clauses", x.count(0), 0);
        Check.due("no stories", x.count(1), 0);
        Check.due("no finds", x.count(2), 0);
        for (int no : new int[] {0, 1, -1}) {
            Check.nse(x, "events(" + no + ")", () -> x.events(no));
            Check.index(x, "drop(" + no + ")", () -> x.drop(no));
        }
        WoolThreads emptied = Check.with("take 3;");
        Check.law(emptied, "");
        Check.dueText("a new one is as one with an empty law", State.of(x), State.of(emptied));
        WoolThreads other = Check.with("take 3;", "");
        other.find(0, 0, 0, 0);
        Check.dueText("another object leaves it alone", State.of(x), State.of(new WoolThreads()));
    }

    private static void promise2() {
        Check.promise(2, "Twenty bytes come on the TAPE, of each number the highest first: how many there are; NONE, doing nothing, if there would be more than 400.");
        WoolThreads x = new WoolThreads();
        Check.due("feed", x.feed(0x77617368, 0x20313b70, 0x61737320, 0x323b7461, 0x6b652033), 20);
        Check.due("feed more", x.feed(0x3b202020, 0x80ffff00, 0, -1, Integer.MIN_VALUE), 40);
        Check.due("wash 1;pass 2;take 3;", x.law(21), 3);
        Check.due("wash, pass and take", x.told(0, 2) * 100 + x.told(0, 3) * 10 + x.told(0, 4), 123);
        for (int i = 1; i <= 19; i++) {
            Check.due("feed " + i, x.feed(0x20202020, 0x20202020, 0x20202020, 0x20202020, 0x20202020), 20 * i);
        }
        Check.due("feed 20", x.feed(0x20202020, 0x20202020, 0x20202020, 0x77617368, 0x20392020), 400);
        String before = State.of(x);
        for (int i = 0; i < 3; i++) {
            Check.due("feed beyond 400", x.feed(0x3f3f3f3f, 0x3f3f3f3f, 0x3f3f3f3f, 0x3f3f3f3f, 0x3f3f3f3f), WoolThreads.NONE);
            Check.due("bytes on the tape", x.count(6), 400);
        }
        Check.dueText("it does nothing", State.of(x), before);
        Check.due("the bytes are those ahead of it", x.law(400), -9);
        Check.due("the text ends too early", x.fault(), 400);
        Check.due("feed anew", x.feed(0, 0, 0, 0, 0), 20);
    }

    private static void promise3() {
        Check.promise(3, "The first n bytes of the TAPE (empty then) are the LAW: how many CLAUSES; or the FAULT less 10 (the LAW stays).");
        WoolThreads x = new WoolThreads();
        String text = "take 5;take 6;take 7;";
        int[] clauses = {0, 1, 2, 3};
        for (int many : clauses) {
            Check.feed(x, text);
            Check.due("law of " + many + " clauses", x.law(7 * many), many);
            Check.due("take of it", x.told(0, 4), many == 0 ? 8 : 4 + many);
            Check.due("the tape is empty", x.count(6), 0);
        }
        String[] faulty = {"?", "take 16;", "take 4;".repeat(25)};
        for (int i = 0; i < faulty.length; i++) {
            Check.due("law of fault " + (i + 1), Check.law(x, faulty[i]), i - 9);
            Check.due("the law stays", x.told(0, 4) * 10 + x.count(0), 73);
            Check.due("the tape is empty", x.count(6), 0);
        }
        // a law is a law of all there is, told ahead of it or behind it
        WoolThreads y = Check.with("shed 0 0 4;", "wear 0 0 at 0;touch 0 1 at 0;");
        y.find(1, 0, 0, 0);
        Check.law(y, "shed 0 0 6;");
        Check.due("the story is run by the latest law", y.lies(0, 1, 0, 0), 6);
        Check.due("so is the find", y.scale(0), 6);
    }

    /** What stands on the tape behind the first n bytes is no part of the text, whatever it is. */
    private static void firstBytesOfALaw() {
        String text = "wash 16;wash 3;";
        int[] clauses = {0, -9, -9, -9, -9, -9, -9, -9, 1, -9, -9, -9, -9, -9, -9, 2};
        int[] faults = {-1, 0, 0, 0, 4, 5, 6, 7, -1, 8, 8, 8, 12, 13, 14, -1};
        for (int n = 0; n <= text.length(); n++) {
            WoolThreads x = Check.with("wash 9;");
            Check.feed(x, text);
            Check.due("law(" + n + ") of " + text, x.law(n), clauses[n]);
            Check.due("its fault", x.fault(), faults[n]);
            Check.due("the law then", x.told(0, 2), clauses[n] < 0 ? 9 : clauses[n] == 0 ? 0 : clauses[n] == 1 ? 16 : 3);
        }
        WoolThreads x = new WoolThreads();
        Check.feed(x, "wash 1;    ?");
        Check.due("blanks ahead of what is no part", x.law(11), 1);
        Check.feed(x, "wash 1;wash 2;wash 3");
        x.law(14);
        Check.feed(x, "wash 4");
        Check.due("nothing of the tape ahead", x.law(7), -9);
        Check.due("its fault", x.fault(), 6);
    }

    private static void nothingOfLawsAhead() {
        String all = "shed 1 2 3;hold 1 2;common 1 2;wash 1;pass 1;take 1;alike 1 2;";
        String empty = State.of(new WoolThreads());
        WoolThreads x = new WoolThreads();
        for (String ahead : new String[] {all, all + "?", all + all + all}) {
            for (int i = 0; i < 3; i++) {
                Check.law(x, ahead);
                Check.law(x, "");
                Check.dueText("an empty law behind " + ahead, State.of(x), empty);
            }
        }
        Check.law(x, all);
        Check.law(x, all + "take 16;");
        Check.law(x, "take 2;");
        WoolThreads two = Check.with("take 2;");
        Check.dueText("another law behind one at fault", State.of(x), State.of(two));
    }

    private static void promise3Refused() {
        Check.promise(3, "IllegalArgumentException: n is not 0 to the TAPE's bytes (it stays).");
        WoolThreads x = Check.with("take 3;", "bare 0 at 1;");
        Check.law(x, "take 99;");
        for (int bytes : new int[] {0, 20, 400}) {
            Check.feed(x, " ".repeat(bytes));
            for (int n : new int[] {-1, bytes + 1, bytes + 20, Integer.MIN_VALUE, Integer.MAX_VALUE}) {
                Check.iae(x, "law(" + n + ") of " + bytes, () -> x.law(n));
                Check.due("bytes stay", x.count(6), bytes);
            }
            Check.due("law(" + bytes + ")", x.law(bytes), 0);
        }
        Check.feed(x, "take 4;take 5;      ");
        Check.iae(x, "law(21)", () -> x.law(21));
        Check.due("law(20): the same bytes", x.law(20), 2);
        Check.due("take of them", x.told(0, 4), 5);
        Check.iae(x, "law(1) of none", () -> x.law(1));
        Check.due("law(0) of none", x.law(0), 0);
    }

    private static void promise4() {
        Check.promise(4, "The first n bytes of the TAPE (empty then) are a STORY: its number; or its FAULT less 10; -1: there are 4.");
        WoolThreads x = new WoolThreads();
        String text = "bare 0 at 1;bare 0 at 2;bare 0 at 3;";
        String[] faulty = {"?", "bare 0 at 100;", "bare 0 at 5;bare 0 at 4;"};
        for (int number = 0; number < 4; number++) {
            for (int i = 0; i < faulty.length; i++) {
                Check.due("story of fault " + (i + 1), Check.story(x, faulty[i]), i - 9);
                Check.due("no story of it", x.count(1), number);
                Check.due("the tape is empty", x.count(6), 0);
            }
            Check.feed(x, text);
            Check.due("story " + number, x.story(12 * number), number);
            Check.due("its events", x.events(number), number);
            Check.due("the tape is empty", x.count(6), 0);
        }
        String[] fifth = {"", "bare 0 at 1;", "?", "bare 0 at 100;", "bare 0 at 5;bare 0 at 4;", " ".repeat(300)};
        for (String beyond : fifth) {
            Check.due("a fifth story: " + beyond, Check.story(x, beyond), -1);
            Check.due("stories", x.count(1), 4);
            Check.due("the tape is empty", x.count(6), 0);
            Check.due("its fault", x.fault(), WoolThreads.NONE);
            for (int number = 0; number < 4; number++) {
                Check.due("events(" + number + ")", x.events(number), number);
            }
        }
    }

    private static void firstBytesOfAStory() {
        String text = "bare 0 at 12;bare 1 at 3";
        int[] numbers = {0, -9, -9, -9, -9, -9, -9, -9, -9, -9, -9, -9, -9, 0, -9};
        int[] faults = {-1, 0, 0, 0, 4, 5, 6, 7, 7, 9, 10, 11, 12, -1, 13};
        for (int n = 0; n < numbers.length; n++) {
            WoolThreads x = new WoolThreads();
            Check.feed(x, text);
            Check.due("story(" + n + ") of " + text, x.story(n), numbers[n]);
            Check.due("its fault", x.fault(), faults[n]);
            Check.due("stories then", x.count(1), numbers[n] + 1 > 0 ? 1 : 0);
        }
        // nothing of a story at fault goes into the next one
        WoolThreads x = new WoolThreads();
        Check.story(x, "wear 0 0 at 0;wear 1 1 at 1;wear 2 2 at 2;?");
        Check.due("a story behind it", Check.story(x, "wear 5 5 at 9;"), 0);
        Check.due("its events", x.events(0), 1);
        for (int place = 0; place < 10; place++) {
            Check.due("what is worn by it on " + place, x.wears(0, place, 99), place == 5 ? 5 : -1);
        }
    }

    private static void promise4Refused() {
        Check.promise(4, "IllegalArgumentException: n is not 0 to the TAPE's bytes, or above 300 (it stays).");
        WoolThreads x = Check.with("take 3;", "bare 0 at 1;", "bare 0 at 2;");
        Check.story(x, "bare 10 at 1;");
        for (int bytes : new int[] {0, 20, 300}) {
            Check.feed(x, " ".repeat(bytes));
            for (int n : new int[] {-1, bytes + 1, bytes + 20, Integer.MIN_VALUE, Integer.MAX_VALUE}) {
                Check.iae(x, "story(" + n + ") of " + bytes, () -> x.story(n));
                Check.due("bytes stay", x.count(6), bytes);
            }
            Check.due("law(" + bytes + ")", x.law(bytes), 0);
        }
        // of 400 bytes no more than 300 may be a story
        Check.feed(x, " ".repeat(288) + "bare 0 at 1;" + " ".repeat(100));
        for (int n : new int[] {301, 302, 320, 399, 400, 401}) {
            Check.iae(x, "story(" + n + ") of 400", () -> x.story(n));
            Check.due("bytes stay", x.count(6), 400);
        }
        Check.due("story(300) of 400: the same bytes", x.story(300), 2);
        Check.due("its event", x.events(2), 1);
        Check.feed(x, " ".repeat(287) + "bare 0 at 1;" + " ".repeat(101));
        Check.due("story(299) of 400", x.story(299), 3);
        Check.iae(x, "story(1) of none, there being four", () -> x.story(1));
        Check.due("story(0), there being four", x.story(0), -1);
    }

    private static void promise5() {
        Check.promise(5, "The place of the FAULT of the latest law() or story(); NONE without.");
        WoolThreads x = new WoolThreads();
        Check.due("fault of a new object", x.fault(), WoolThreads.NONE);
        Check.law(x, "?");
        Check.due("fault at the first byte", x.fault(), 0);
        Check.law(x, " ".repeat(399) + "?");
        Check.due("fault at the last byte of 400", x.fault(), 399);
        Check.law(x, " ".repeat(396) + "wash");
        Check.due("fault at the length of 400", x.fault(), 400);
        Check.story(x, " ".repeat(296) + "bare");
        Check.due("fault at the length of 300", x.fault(), 300);
        Check.due("fault asked again", x.fault(), 300);
        x.feed(0, 0, 0, 0, 0);
        x.find(0, 0, 0, 0);
        Check.due("fault behind other calls", x.fault(), 300);
        Check.iae(x, "law(21)", () -> x.law(21));
        Check.iae(x, "story(21)", () -> x.story(21));
        Check.due("fault behind refused ones", x.fault(), 300);
        Check.story(x, "");
        Check.due("none behind a good story", x.fault(), WoolThreads.NONE);
        Check.story(x, "wear");
        Check.due("fault of a story", x.fault(), 4);
        Check.law(x, "");
        Check.due("none behind a good law", x.fault(), WoolThreads.NONE);
        Check.law(x, "take 0;");
        Check.story(x, "");
        Check.due("none behind a good story behind a law at fault", x.fault(), WoolThreads.NONE);
    }

    private static void promise6() {
        Check.promise(6, "Of the LAW: what a GARMENT sheds of a SORT.");
        WoolThreads x = Check.with("shed 0 0 1;shed 7 9 200;shed 7 0 2;shed 0 9 3;");
        Check.due("sheds(0, 0)", x.sheds(0, 0), 1);
        Check.due("sheds(7, 9)", x.sheds(7, 9), 200);
        Check.due("sheds(7, 0)", x.sheds(7, 0), 2);
        Check.due("sheds(0, 9)", x.sheds(0, 9), 3);
        Check.due("sheds(6, 9)", x.sheds(6, 9), 0);
        Check.due("sheds(7, 8)", x.sheds(7, 8), 0);
        Check.promise(6, "IllegalArgumentException: no such GARMENT, SORT (so below).");
        Check.iaeBeyond(x, "sheds of a garment", 7, garment -> x.sheds(garment, 9));
        Check.iaeBeyond(x, "sheds of a sort", 9, sort -> x.sheds(7, sort));
    }

    private static void promise7() {
        Check.promise(7, "0 hold, 1 common of a SORT, 2 wash, 3 pass, 4 take (of 2 to 4 the SORT is no matter, but there).");
        WoolThreads x = Check.with("hold 0 1;hold 9 2;common 0 3;common 9 4;wash 5;pass 6;take 7;");
        int[][] want = {{1, 3, 5, 6, 7}, {16, 0, 5, 6, 7}, {2, 4, 5, 6, 7}};
        int[] sorts = {0, 5, 9};
        for (int i = 0; i < 3; i++) {
            for (int what = 0; what <= 4; what++) {
                Check.due("told(" + sorts[i] + ", " + what + ")", x.told(sorts[i], what), want[i][what]);
            }
        }
        for (int what = 0; what <= 4; what++) {
            int it = what;
            Check.iaeBeyond(x, "told of a sort and " + what, 9, sort -> x.told(sort, it));
        }
        Check.promise(7, "IllegalArgumentException: another what (so below).");
        Check.iaeBeyond(x, "told of what", 4, what -> x.told(0, what));
        Check.iae(x, "told(10, 5)", () -> x.told(10, 5));
    }

    private static void promise8() {
        Check.promise(8, "Which SORTS are ALIKE with one (ten bits, itself, too).");
        WoolThreads none = new WoolThreads();
        WoolThreads two = Check.with("alike 9 0;");
        WoolThreads all = Check.with("alike 0 1;alike 0 2;alike 0 3;alike 0 4;alike 0 5;alike 0 6;alike 0 7;alike 0 8;alike 0 9;");
        for (int sort = 0; sort < 10; sort++) {
            Check.due("itself alone", none.alike(sort), 1 << sort);
            Check.due("two", two.alike(sort), sort == 0 || sort == 9 ? 513 : 1 << sort);
            Check.due("all ten bits", all.alike(sort), 1023);
        }
        Check.iaeBeyond(two, "alike of a sort", 9, two::alike);
    }

    private static void promise37() {
        Check.promise(37, "0 CLAUSES of the LAW, 1 STORIES, 2 FINDS, 3 SEATS, 4 SHOPS, 5 IMAGES, 6 bytes of the TAPE; NONE for others.");
        WoolThreads x = new WoolThreads();
        for (int what = 0; what <= 6; what++) {
            Check.due("empty: count(" + what + ")", x.count(what), 0);
        }
        Check.law(x, "take 1;".repeat(24));
        for (int i = 0; i < 45; i++) {
            x.story(0);
            x.find(0, 0, 0, 0);
            x.seat(0);
            x.shop(0, 0, 1);
            x.image();
        }
        Check.feed(x, " ".repeat(420));
        int[] full = {24, 4, 8, 40, 12, 3, 400};
        for (int what = 0; what <= 6; what++) {
            Check.due("full: count(" + what + ")", x.count(what), full[what]);
        }
        for (int what : new int[] {-2, -1, 7, 8, Integer.MIN_VALUE, Integer.MAX_VALUE}) {
            Check.due("count(" + what + ")", x.count(what), WoolThreads.NONE);
        }
        x.drop(0);
        Check.due("one find less", x.count(2), 7);
        x.restore();
        // the latest of the three was made with the third find, seat and shop
        Check.due("images left", x.count(5), 2);
        Check.due("finds of it", x.count(2), 3);
        Check.due("seats of it", x.count(3), 3);
        Check.due("shops of it", x.count(4), 3);
    }
}
