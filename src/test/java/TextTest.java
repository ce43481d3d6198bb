/** Promises 1 to 5 and 37: a new object, the tape, the texts, their faults, and the counts. */
public final class TextTest {
    public static void main(String[] args) {
        newObject();
        feeding();
        laws();
        lawNumbers();
        lawFaults();
        stories();
        storyBehindFault();
        storyFaults();
        lengths();
        fourStories();
        faultyFifthStory();
        faults();
        counts();
        Check.end("TextTest");
    }

    private static void newObject() {
        WoolThreads x = new WoolThreads();
        for (int what = 0; what <= 6; what++) {
            Check.due("new: count(" + what + ")", x.count(what), 0);
        }
        Check.due("new: fault()", x.fault(), WoolThreads.NONE);
        for (int sort = 0; sort < 10; sort++) {
            Check.due("new: hold", x.told(sort, 0), 16);
            Check.due("new: common", x.told(sort, 1), 0);
            Check.due("new: wash", x.told(sort, 2), 0);
            Check.due("new: pass", x.told(sort, 3), 0);
            Check.due("new: take", x.told(sort, 4), 8);
            Check.due("new: alike", x.alike(sort), 1 << sort);
            Check.due("new: share", x.share(sort), 0);
            Check.due("new: rare", x.rare(sort, 0), -1);
            for (int garment = 0; garment < 8; garment++) {
                Check.due("new: sheds", x.sheds(garment, sort), 0);
            }
        }
        Check.nse(x, "new: events(0)", () -> x.events(0));
        Check.index(x, "new: found(0, 0)", () -> x.found(0, 0));
        Check.due("new: restore()", x.restore(), -1);
    }

    private static void feeding() {
        WoolThreads x = new WoolThreads();
        for (int i = 1; i <= 20; i++) {
            Check.due("feed " + i, x.feed(0x20202020, 0x20202020, 0x20202020, 0x20202020, 0x20202020), 20 * i);
        }
        Check.due("feed 21", x.feed(1, 2, 3, 4, 5), WoolThreads.NONE);
        Check.due("feed 22", x.feed(1, 2, 3, 4, 5), WoolThreads.NONE);
        Check.due("count(6)", x.count(6), 400);
        Check.due("400 blanks are a law", x.law(400), 0);
        Check.due("the tape is empty", x.count(6), 0);
        Check.due("feed anew", x.feed(-1, -1, -1, -1, -1), 20);
        Check.due("bytes of 255 can't stand", x.law(20), -9);
        Check.due("the highest byte first", feedOne(x, 't' << 24 | 'a' << 16 | 'k' << 8 | 'e', ' ' << 24 | '1' << 16 | '5' << 8 | ';'), 1);
        Check.due("take of it", x.told(0, 4), 15);
    }

    private static int feedOne(WoolThreads x, int a, int b) {
        x.feed(a, b, 0, 0, 0);
        return x.law(8);
    }

    private static void laws() {
        Check.dueLaw("", 0);
        Check.dueLaw("    ", 0);
        Check.dueLaw("shed 0 0 0;", 1);
        Check.dueLaw("  shed   7  9    200;hold 9 16;wash 16;pass 8;take 15;alike 0 9;common 9 20;  ", 7);
        Check.dueLaw("shed7 9 200;hold9 16;wash16;pass0;take1;alike0 9;common9 20;", 7);
        Check.dueLaw("hold 000000000000000000000009 00000000000000000016;", 1);
        Check.dueLaw("take 8 ;  take 9  ;", 2);
        Check.dueLaw(Check.times("take 7;", 24), 24);
        Check.dueLaw(Check.times("take 7;", 24) + "   ", 24);
        Check.dueLaw("hold 0 0;common 0 0;wash 0;pass 0;", 4);
        WoolThreads x = Check.with("take 3;hold 1 2;alike 1 2;shed 1 1 1;");
        Check.due("a law takes the place of all ahead", Check.law(x, "pass 1;"), 1);
        Check.due("hold is gone", x.told(1, 0), 16);
        Check.due("take is gone", x.told(1, 4), 8);
        Check.due("alike is gone", x.alike(1), 2);
        Check.due("shed is gone", x.sheds(1, 1), 0);
        Check.law(x, "wash 5;common 3 4;shed 2 2 2;hold 4 5;pass 3;take 9;");
        Check.law(x, "");
        String empty = State.of(new WoolThreads());
        Check.dueText("an empty law behind some", State.of(x), empty);
        Check.law(x, "wash 5;common 3 4;shed 2 2 2;hold 4 5;pass 3;take 9;alike 1 2;?");
        Check.law(x, "");
        Check.dueText("an empty law behind one at fault", State.of(x), empty);
        Check.feed(x, "take 5;take 6;");
        Check.due("only the first bytes", x.law(7), 1);
        Check.feed(x, "take 5;take 6;");
        Check.due("not the byte behind them", x.law(6), -9);
        Check.due("the text ends there", x.fault(), 6);
        Check.feed(x, "take 15;");
        Check.due("not the digit behind them", x.law(6), -9);
        Check.feed(x, "bare 0 at 1;");
        Check.due("nor of a story", x.story(11), -9);
        Check.due("which ends there", x.fault(), 11);
        Check.feed(x, "take 5;    ?");
        Check.due("blanks at the end alone", x.law(11), 1);
        Check.due("take of them", x.told(0, 4), 5);
        Check.due("the rest is gone, too", x.count(6), 0);
    }

    private static void lawNumbers() {
        Check.dueLawFault("shed 8 0 0;", 2, 5);
        Check.dueLawFault("shed 0 10 0;", 2, 7);
        Check.dueLawFault("shed 0 0 201;", 2, 9);
        Check.dueLawFault("hold 10 0;", 2, 5);
        Check.dueLawFault("hold 0 17;", 2, 7);
        Check.dueLawFault("wash 17;", 2, 5);
        Check.dueLawFault("pass 9;", 2, 5);
        Check.dueLawFault("take 0;", 2, 5);
        Check.dueLawFault("take 16;", 2, 5);
        Check.dueLawFault("alike 10 0;", 2, 6);
        Check.dueLawFault("alike 0 10;", 2, 8);
        Check.dueLawFault("alike 3   03;", 2, 10);
        Check.dueLawFault("common 0 21;", 2, 9);
        Check.dueLawFault("common 10 21;", 2, 7);
        Check.dueLawFault("wash 4294967297;", 2, 5);
        Check.dueLawFault("wash 18446744073709551617;", 2, 5);
        Check.dueLawFault("wash 100000000000000000000000000000000000000000;", 2, 5);
    }

    private static void lawFaults() {
        Check.dueLawFault("sheds 0 0 0;", 1, 0);
        Check.dueLawFault("she 0 0 0;", 1, 0);
        Check.dueLawFault("  touch 0 1 at 2;", 1, 2);
        Check.dueLawFault("Shed 0 0 0;", 1, 0);
        Check.dueLawFault("mash 1;", 1, 0);
        Check.dueLawFault("wasp 1;", 1, 0);
        Check.dueLawFault("commons 1 1;", 1, 0);
        Check.dueLawFault("commoncommoncommon 1 1;", 1, 0);
        Check.dueLawFault(";", 1, 0);
        Check.dueLawFault("wash 1;;", 1, 7);
        Check.dueLawFault("wash 1; ;", 1, 8);
        Check.dueLawFault("7;", 1, 0);
        Check.dueLawFault("wash", 1, 4);
        Check.dueLawFault("wash   ", 1, 7);
        Check.dueLawFault("wash 5", 1, 6);
        Check.dueLawFault("wash 5   ", 1, 9);
        Check.dueLawFault("wash ;", 1, 5);
        Check.dueLawFault("wash x;", 1, 5);
        Check.dueLawFault("wash -1;", 1, 5);
        Check.dueLawFault("wash 1 2;", 1, 7);
        Check.dueLawFault("wash 1,", 1, 6);
        Check.dueLawFault("was", 1, 0);
        Check.dueLawFault("wash\t1;", 1, 4);
        Check.dueLawFault("wash 1;\0", 1, 7);
        Check.dueLawFault("wash 1;" + (char) 225, 1, 7);
        Check.dueLawFault("shed 0 0;", 1, 8);
        Check.dueLawFault("alike 2 2", 2, 8);
        Check.dueLawFault("wash 17 x", 2, 5);
        Check.dueLawFault("wash 1;take 0;pass 9;", 2, 12);
        Check.dueLawFault(Check.times("take 7;", 25), 3, 168);
        Check.dueLawFault(Check.times("take 7;", 24) + "  wash 17;", 3, 170);
        Check.dueLawFault(Check.times("take 7;", 24) + "walk 17;", 1, 168);
        Check.dueLawFault(Check.times("take 7;", 24) + ";", 1, 168);
        for (String clause : new String[] {"shed 0 0 0;", "hold 0 0;", "wash 0;", "pass 0;", "take 1;", "alike 0 1;", "common 0 0;"}) {
            Check.dueLaw(Check.times("take 7;", 23) + clause, 24);
            Check.dueLawFault(Check.times("take 7;", 24) + clause, 3, 168);
        }
        Check.dueLawFault(Check.times("take 7;", 23) + "take 77;take 7;", 2, 166);
    }

    private static void stories() {
        Check.dueStory("", 0);
        Check.dueStory("   ", 0);
        Check.dueStory("wear 9 7 at 99;", 1);
        Check.dueStory(" wear 0 0 at 0;bare 0 at 0;touch 0 1 at 0;wash 0 at 0;shake 0 0 at 0;shake 9 16 at 99; ", 6);
        Check.dueStory("wear0 0at0;bare0at0;touch0 1at0;wash0at 0;shake0 0at0 ;", 5);
        Check.dueStory("wash 1 at 007;wash 1 at 7;wash 1 at 8;", 3);
        Check.dueStory(Check.times("bare 0 at 1;", 20), 20);
        Check.dueStory(Check.times("bare 0 at 1;", 20) + Check.times(" ", 60), 20);
    }

    private static void storyBehindFault() {
        WoolThreads x = Check.with("shed 0 0 5;");
        Check.due("a story at fault behind its second event", Check.story(x, "wear 0 0 at 0;touch 0 1 at 0;?"), -9);
        Check.due("a story behind it", Check.story(x, "touch 0 1 at 0;"), 0);
        Check.due("its events", x.events(0), 1);
        Check.due("what lies by it", x.lies(0, 1, 0, 0), 0);
        Check.due("another one", Check.story(x, "wear 0 0 at 0;touch 0 2 at 0;"), 1);
        Check.due("events of the first", x.events(0), 1);
        Check.due("events of the other", x.events(1), 2);
        Check.due("what lies by the other", x.lies(1, 2, 0, 0), 5);
    }

    private static void storyFaults() {
        Check.dueStoryFault("wear 10 0 at 1;", 2, 5);
        Check.dueStoryFault("wear 0 8 at 1;", 2, 7);
        Check.dueStoryFault("wear 0 0 at 100;", 2, 12);
        Check.dueStoryFault("bare 10 at 1;", 2, 5);
        Check.dueStoryFault("touch 10 1 at 1;", 2, 6);
        Check.dueStoryFault("touch 1 10 at 1;", 2, 8);
        Check.dueStoryFault("touch 1 1 at 1;", 2, 8);
        Check.dueStoryFault("wash 10 at 1;", 2, 5);
        Check.dueStoryFault("shake 10 1 at 1;", 2, 6);
        Check.dueStoryFault("shake 1 17 at 1;", 2, 8);
        Check.dueStoryFault("shed 0 0 1;", 1, 0);
        Check.dueStoryFault("wear 0 0;", 1, 8);
        Check.dueStoryFault("wear 0 0 att 1;", 1, 9);
        Check.dueStoryFault("wear 0 0 a 1;", 1, 9);
        Check.dueStoryFault("wear 0 0 at ;", 1, 12);
        Check.dueStoryFault("wear 0 0 at", 1, 11);
        Check.dueStoryFault("wear 0 0 at 1", 1, 13);
        Check.dueStoryFault("wear 0 0 at 1 ", 1, 14);
        Check.dueStoryFault("wear 0 at 1;", 1, 7);
        Check.dueStoryFault("bare 0 0 at 1;", 1, 7);
        Check.dueStoryFault("at 1;", 1, 0);
        Check.dueStoryFault("bear 0 0 at 1;", 1, 0);
        Check.dueStoryFault("couch 0 1 at 1;", 1, 0);
        Check.dueStoryFault("bare 0 it 1;", 1, 7);
        for (String event : new String[] {"wear 0 0", "bare 0", "touch 0 1", "wash 0", "shake 0 0"}) {
            Check.dueStory(Check.times("bare 0 at 1;", 19) + event + " at 1;", 20);
            Check.dueStoryFault(Check.times("bare 0 at 1;", 20) + event + " at 1;", 3, 240);
            Check.dueStoryFault("bare 0 at 1;" + event + " at 0;", 3, 12 + event.length() + 4);
        }
        Check.dueStoryFault("bare 0 at 5;bare 0 at 4;", 3, 22);
        Check.dueStoryFault("bare 0 at 5;bare 0 at 4", 3, 22);
        Check.dueStoryFault("bare 0 at 5;bare 0 at 100;", 2, 22);
        Check.dueStoryFault("bare 0 at 5;touch 1 1 at 4;", 2, 20);
        Check.dueStoryFault(Check.times("bare 0 at 1;", 21), 3, 240);
        Check.dueStoryFault(Check.times("bare 0 at 1;", 20) + "bare", 3, 240);
        Check.dueStoryFault(Check.times("bare 0 at 1;", 20) + "bar 0 at 1;", 1, 240);
        Check.dueStoryFault(Check.times("bare 0 at 1;", 19) + "bare 0 at 0;bare 0 at 1;", 3, 238);
    }

    private static void lengths() {
        WoolThreads x = Check.with("take 3;", "bare 0 at 1;");
        Check.iae(x, "law(1) of nothing", () -> x.law(1));
        Check.iae(x, "story(1) of nothing", () -> x.story(1));
        Check.feed(x, "take 5;");
        Check.iae(x, "law(-1)", () -> x.law(-1));
        Check.iae(x, "law(21)", () -> x.law(21));
        Check.iae(x, "law(the most)", () -> x.law(Integer.MAX_VALUE));
        Check.iae(x, "law(the least)", () -> x.law(Integer.MIN_VALUE));
        Check.iae(x, "story(-1)", () -> x.story(-1));
        Check.iae(x, "story(21)", () -> x.story(21));
        Check.due("the tape stays", x.law(7), 1);
        Check.due("take of it", x.told(0, 4), 5);
        Check.feed(x, Check.times(" ", 400));
        Check.iae(x, "story(301)", () -> x.story(301));
        Check.iae(x, "story(400)", () -> x.story(400));
        Check.due("story(300)", x.story(300), 1);
        Check.due("the tape is empty", x.count(6), 0);
        Check.due("story(0)", x.story(0), 2);
        Check.due("law(0)", x.law(0), 0);
        Check.due("take of none", x.told(0, 4), 8);
    }

    private static void fourStories() {
        WoolThreads x = new WoolThreads();
        for (int i = 0; i < 4; i++) {
            Check.due("story " + i, Check.story(x, Check.times("bare 0 at 1;", i)), i);
        }
        Check.due("a fifth story", Check.story(x, "bare 0 at 1;"), -1);
        Check.due("its fault", x.fault(), -1);
        Check.due("the tape is empty", x.count(6), 0);
        Check.due("count(1)", x.count(1), 4);
        for (int i = 0; i < 4; i++) {
            Check.due("events(" + i + ")", x.events(i), i);
        }
        Check.nse(x, "events(4)", () -> x.events(4));
        Check.feed(x, " ");
        Check.iae(x, "story(21) of four", () -> x.story(21));
        Check.iae(x, "story(-1) of four", () -> x.story(-1));
        Check.due("the tape stays of four", x.count(6), 20);
        Check.feed(x, Check.times(" ", 300));
        Check.iae(x, "story(301) of four", () -> x.story(301));
    }

    /** A fifth text becomes no story, so none of its faults is told, nor one of a text ahead of it. */
    private static void faultyFifthStory() {
        String[] faulty = {"?", "bare", "bare 10 at 1;", "bare 0 at 2;bare 0 at 1;", Check.times("bare 0 at 1;", 21)};
        int[] kinds = {-9, -9, -8, -7, -7};
        int[] places = {0, 4, 5, 22, 240};
        for (int i = 0; i < faulty.length; i++) {
            WoolThreads x = Check.with("take 3;", "", "", "");
            Check.due("a faulty fourth: " + faulty[i], Check.story(x, faulty[i]), kinds[i]);
            Check.due("its fault: " + faulty[i], x.fault(), places[i]);
            Check.due("a good fourth", Check.story(x, "bare 0 at 1;"), 3);
            Check.due("a faulty fifth: " + faulty[i], Check.story(x, faulty[i]), -1);
            Check.due("its fault: " + faulty[i], x.fault(), -1);
            Check.due("the tape is empty", x.count(6), 0);
            Check.due("count(1)", x.count(1), 4);
            Check.due("events(3)", x.events(3), 1);
            Check.due("a faulty law of four stories", Check.law(x, "take 0;"), -8);
            Check.due("its fault", x.fault(), 5);
            Check.due("a faulty fifth behind it: " + faulty[i], Check.story(x, faulty[i]), -1);
            Check.due("the law's fault is none of the latest", x.fault(), -1);
        }
    }

    private static void faults() {
        WoolThreads x = new WoolThreads();
        Check.law(x, "wash 17;");
        Check.due("fault of law", x.fault(), 5);
        Check.due("fault again", x.fault(), 5);
        Check.iae(x, "law(99)", () -> x.law(99));
        Check.due("fault stays behind a throw", x.fault(), 5);
        Check.story(x, "bare 0 at 1;");
        Check.due("none behind a good story", x.fault(), -1);
        Check.story(x, "bare 0 at 1;?");
        Check.due("fault of story", x.fault(), 12);
        Check.law(x, "");
        Check.due("none behind a good law", x.fault(), -1);
    }

    private static void counts() {
        WoolThreads x = Check.with("take 3;take 4;take 5;take 6;take 7;take 8;take 9;", "", "", "");
        for (int i = 0; i < 6; i++) {
            x.find(0, 0, 0, 0);
        }
        for (int i = 0; i < 5; i++) {
            x.seat(0);
        }
        for (int i = 0; i < 4; i++) {
            x.shop(0, 0, 1);
        }
        x.image();
        x.image();
        x.feed(0, 0, 0, 0, 0);
        int[] want = {7, 3, 6, 5, 4, 2, 20};
        for (int what = 0; what <= 6; what++) {
            Check.due("count(" + what + ")", x.count(what), want[what]);
        }
        for (int what : new int[] {-1, 7, 8, 100, Integer.MAX_VALUE, Integer.MIN_VALUE}) {
            Check.due("count(" + what + ")", x.count(what), WoolThreads.NONE);
        }
    }
}
