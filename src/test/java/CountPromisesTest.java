/** Promises 26 to 36, each under its own words: how many there were, seats, shops, what is next, signs, and images. */
public final class CountPromisesTest {
    public static void main(String[] args) {
        promise26();
        promise27();
        promise28();
        promise29();
        promise30();
        promise31();
        promise32();
        promise33();
        promise34();
        promise35();
        promise36();
        imagesInImages();
        Check.end("CountPromisesTest");
    }

    private static void promise26() {
        Check.promise(26, "AFTER: the least, or the greatest number; NONE: there is none.");
        WoolThreads x = Check.with("hold 0 8;hold 8 0;hold 9 1;");
        Check.due("the least", x.after(0, 1, 2, false), 4);
        Check.due("the greatest", x.after(0, 1, 2, true), 7);
        Check.due("there is none, the least", x.after(9, 9999, 2, false), WoolThreads.NONE);
        Check.due("there is none, the greatest", x.after(9, 9999, 2, true), WoolThreads.NONE);
        Check.promise(26, "IllegalArgumentException: also of how many are left (0 to 9,999), HOURS, or if hold is 0.");
        for (boolean most : new boolean[] {false, true}) {
            Check.iaeBeyond(x, "after of how many left", 9999, left -> x.after(0, left, 3, most));
            Check.iaeBeyond(x, "after of hours", 60, hours -> x.after(0, 3, hours, most));
            Check.bounds(x, "after of a sort, from 9 on", IllegalArgumentException.class, 9, 9, sort -> x.after(sort, 3, 3, most));
            Check.bounds(x, "after of a sort, to 7", IllegalArgumentException.class, 0, 7, sort -> x.after(sort, 3, 3, most));
            Check.iae(x, "after of hold 0", () -> x.after(8, 0, 0, most));
        }
        WoolThreads none = new WoolThreads();
        Check.iaeBeyond(none, "after of a sort without a law", 9, sort -> none.after(sort, 9999, 60, true));
    }

    private static void promise27() {
        Check.promise(27, "A SEAT: how many there are; -1: there are 40. IllegalArgumentException: no ten bits.");
        WoolThreads x = new WoolThreads();
        for (int i = 1; i <= 39; i++) {
            Check.due("seat " + i, x.seat(i), i);
        }
        for (int no : new int[] {-1, 1024, Integer.MIN_VALUE, Integer.MAX_VALUE}) {
            Check.iae(x, "seat(" + no + ") of 39", () -> x.seat(no));
        }
        Check.due("seat 40", x.seat(1023), 40);
        String before = State.of(x);
        Check.due("seat 41", x.seat(1023), -1);
        Check.due("seat 42", x.seat(0), -1);
        Check.dueText("nothing changes", State.of(x), before);
        Check.iae(x, "seat(1024) of 40", () -> x.seat(1024));
    }

    private static void promise28() {
        Check.promise(28, "SHARE.");
        WoolThreads x = new WoolThreads();
        Check.due("share of no seats", x.share(9), 0);
        x.seat(512);
        x.seat(1023);
        x.seat(511);
        Check.due("share(9)", x.share(9), 2);
        Check.due("share(0)", x.share(0), 2);
        Check.due("share(8)", x.share(8), 2);
        Check.iaeBeyond(x, "share of a sort", 9, x::share);
    }

    private static void promise29() {
        Check.promise(29, "TOGETHER.");
        WoolThreads x = new WoolThreads();
        Check.due("together of no seats", x.together(0, 9), 0);
        x.seat(513);
        x.seat(513);
        x.seat(0);
        Check.due("together(0, 9)", x.together(0, 9), 2 * 3 - 2 * 2);
        Check.due("together(9, 9)", x.together(9, 9), 2);
        Check.due("together(0, 1)", x.together(0, 1), 0);
        Check.iaeBeyond(x, "together of a sort", 9, sort -> x.together(sort, 9));
        Check.iaeBeyond(x, "together with another", 9, sort -> x.together(9, sort));
    }

    private static void promise30() {
        Check.promise(30, "A SHOP: how many there are; -1: there are 12. IllegalArgumentException: also if it is not 0 to all sold, and all not 1 to 1,000,000.");
        WoolThreads x = new WoolThreads();
        Check.due("shop 1", x.shop(0, 0, 1), 1);
        Check.due("shop 2", x.shop(9, 1000000, 1000000), 2);
        for (int i = 3; i <= 11; i++) {
            Check.due("shop " + i, x.shop(8, 1, 2), i);
        }
        refusedShops(x);
        Check.due("shop 12", x.shop(8, 2, 2), 12);
        String before = State.of(x);
        Check.due("shop 13", x.shop(8, 2, 2), -1);
        Check.due("shop 14", x.shop(0, 0, 1), -1);
        Check.dueText("nothing changes", State.of(x), before);
        refusedShops(x);
    }

    private static void refusedShops(WoolThreads x) {
        for (int no : new int[] {-1, 10, Integer.MIN_VALUE, Integer.MAX_VALUE}) {
            Check.iae(x, "a shop of sort " + no, () -> x.shop(no, 1, 2));
        }
        for (int no : new int[] {-1, 101, Integer.MIN_VALUE, Integer.MAX_VALUE}) {
            Check.iae(x, no + " sold of 100", () -> x.shop(0, no, 100));
        }
        for (int no : new int[] {-1, 0, 1000001, Integer.MIN_VALUE, Integer.MAX_VALUE}) {
            Check.iae(x, "0 sold of " + no, () -> x.shop(0, 0, no));
            Check.iae(x, "all sold of " + no, () -> x.shop(0, no, no));
        }
    }

    private static void promise31() {
        Check.promise(31, "RARE (what 0), or the least (1), the greatest (2) of its SPAN; NONE without.");
        WoolThreads x = new WoolThreads();
        for (int sort = 0; sort < 10; sort++) {
            for (int what = 0; what <= 2; what++) {
                Check.due("without shops", x.rare(sort, what), WoolThreads.NONE);
            }
        }
        x.shop(9, 1, 10);
        x.shop(9, 3, 10);
        x.shop(9, 2, 40);
        Check.due("rare(9, 0)", x.rare(9, 0), 100);
        Check.due("rare(9, 1)", x.rare(9, 1), 50);
        Check.due("rare(9, 2)", x.rare(9, 2), 300);
        for (int what = 0; what <= 2; what++) {
            int it = what;
            Check.due("of another sort", x.rare(8, what), WoolThreads.NONE);
            Check.iaeBeyond(x, "rare of a sort and " + what, 9, sort -> x.rare(sort, it));
        }
        Check.iaeBeyond(x, "rare of what", 2, what -> x.rare(9, what));
        Check.iaeBeyond(x, "rare of what, without", 2, what -> x.rare(0, what));
    }

    private static void promise32() {
        Check.promise(32, "NEXT at an HOUR: 100 times the difference, 10 times the PLACE, and the SORT; NONE: all PILES there are alike.");
        WoolThreads x = Check.with("shed 0 0 60;shed 1 9 1;", "", "wear 9 0 at 98;touch 9 0 at 98;", "wear 0 1 at 98;touch 0 9 at 98;");
        Check.due("60 on place 0 of sort 0", x.next(0, 1, 98), 6000);
        Check.due("1 on place 9 of sort 9", x.next(0, 2, 99), 199);
        Check.due("all alike at 97", x.next(0, 1, 97), WoolThreads.NONE);
        Check.due("all alike with itself", x.next(1, 1, 98), WoolThreads.NONE);
        Check.nseBeyond(x, "next of a story", story -> x.next(story, 0, 0));
        Check.nseBeyond(x, "next of another", story -> x.next(0, story, 0));
        Check.iaeBeyond(x, "next at an hour", 99, hour -> x.next(0, 1, hour));
        Check.nse(x, "next of no story and no hour", () -> x.next(3, 0, 100));
        Check.nse(x, "next of no other and no hour", () -> x.next(0, 3, 100));
    }

    private static void promise33() {
        Check.promise(33, "SIGNS of an EVENT (0, if it is no touch).");
        WoolThreads x = Check.with("shed 0 0 1;", "wear 0 0 at 0;touch 0 1 at 0;bare 0 at 0;wash 1 at 0;shake 1 16 at 0;wear 0 0 at 0;touch 1 0 at 0;", "", "touch 0 1 at 0;");
        x.find(1, 0, 0, 1);
        int[] want = {0, 1, 0, 0, 0, 0, 2};
        for (int event = 0; event < want.length; event++) {
            Check.due("signs(0, " + event + ")", x.signs(0, event), want[event]);
        }
        Check.bounds(x, "signs of an event", IndexOutOfBoundsException.class, 0, 6, event -> x.signs(0, event));
        Check.index(x, "signs of no events", () -> x.signs(1, 0));
        Check.due("nothing is worn", x.signs(2, 0), 0);
        for (int no : new int[] {-1, 3, Integer.MIN_VALUE, Integer.MAX_VALUE}) {
            Check.nse(x, "signs of story " + no, () -> x.signs(no, 0));
            Check.nse(x, "signs of story " + no + " and no event", () -> x.signs(no, -1));
        }
    }

    private static void promise34() {
        Check.promise(34, "SAID may be of a STORY against another one.");
        WoolThreads x = Check.with("shed 0 0 4;shed 0 1 10;", "wear 0 0 at 0;touch 0 1 at 0;", "");
        Check.due("without finds", x.said(1, 0), 0);
        x.find(1, 0, 0, 0);
        Check.due("worth 16", x.said(1, 0), 1);
        x.drop(0);
        x.find(1, 0, 1, 0);
        Check.due("worth 1,024", x.said(1, 0), 2);
        x.find(1, 0, 1, 0);
        Check.due("worth a million", x.said(1, 0), 3);
        Check.due("the other way", x.said(0, 1), 0);
        Check.nseBeyond(x, "said of a story", story -> x.said(story, 0));
        Check.nseBeyond(x, "said of another", story -> x.said(0, story));
    }

    /** Finds, seats and shops as many as i tells. */
    private static void fill(WoolThreads x, int finds, int seats, int shops) {
        while (x.count(2) > 0) {
            x.drop(0);
        }
        for (int i = 0; i < finds; i++) {
            x.find(i, finds, 0, i);
        }
        for (int i = x.count(3); i < seats; i++) {
            x.seat(1);
        }
        for (int i = x.count(4); i < shops; i++) {
            x.shop(0, i, 1000);
        }
    }

    private static void dueFilled(WoolThreads x, int finds, int seats, int shops) {
        Check.due("finds", x.count(2), finds);
        Check.due("seats", x.count(3), seats);
        Check.due("shops", x.count(4), shops);
        Check.due("share(0)", x.share(0), seats);
        Check.due("the greatest shop", x.rare(0, 2), shops - 1);
        for (int i = 0; i < finds; i++) {
            Check.due("place of find " + i, x.found(i, 0), i);
            Check.due("hour of find " + i, x.found(i, 1), finds);
            Check.due("how many of find " + i, x.found(i, 3), i);
        }
    }

    private static void promise35() {
        Check.promise(35, "An IMAGE of FINDS, SEATS, SHOPS: how many there are; -1: there are 3.");
        WoolThreads x = new WoolThreads();
        fill(x, 2, 5, 3);
        for (int i = 1; i <= 3; i++) {
            Check.due("image " + i, x.image(), i);
            Check.due("images", x.count(5), i);
            dueFilled(x, 2, 5, 3);
        }
        fill(x, 3, 6, 4);
        Check.due("image 4", x.image(), -1);
        Check.due("images", x.count(5), 3);
        dueFilled(x, 3, 6, 4);
        Check.due("restore", x.restore(), 2);
        // the fourth was none, so the third is still as it was
        dueFilled(x, 2, 5, 3);
        Check.due("there is room again", x.image(), 3);
        Check.due("and none", x.image(), -1);
    }

    private static void promise36() {
        Check.promise(36, "All is as in the latest IMAGE, which is gone: how many are left; -1: there is none.");
        WoolThreads x = Check.with("take 3;", "bare 0 at 1;");
        String before = State.of(x);
        Check.due("restore of none", x.restore(), -1);
        Check.dueText("nothing changes", State.of(x), before);
        Check.due("an empty image", x.image(), 1);
        fill(x, 8, 40, 12);
        Check.due("a full image", x.image(), 2);
        fill(x, 1, 40, 12);
        Check.due("another image", x.image(), 3);
        fill(x, 0, 40, 12);
        Check.due("restore of three", x.restore(), 2);
        dueFilled(x, 1, 40, 12);
        Check.due("restore of two", x.restore(), 1);
        dueFilled(x, 8, 40, 12);
        Check.due("a full one has no room", x.find(0, 0, 0, 0) + x.seat(0) + x.shop(0, 0, 1), -3);
        Check.due("restore of one", x.restore(), 0);
        dueFilled(x, 0, 0, 0);
        Check.due("restore of none", x.restore(), -1);
        Check.dueText("all is as it was at first", State.of(x), before);
        // law, stories and tape are no part of an image
        x.image();
        Check.law(x, "take 4;");
        Check.story(x, "");
        Check.law(x, "take 0;");
        x.feed(0, 0, 0, 0, 0);
        Check.due("restore behind texts", x.restore(), 0);
        Check.due("the law stays", x.told(0, 4), 4);
        Check.due("stories stay", x.count(1), 2);
        Check.due("the fault stays", x.fault(), 5);
        Check.due("the tape stays", x.count(6), 20);
    }

    /** What comes behind an image does not go into it, nor what comes behind a restore into those that are left. */
    private static void imagesInImages() {
        WoolThreads x = new WoolThreads();
        fill(x, 1, 1, 1);
        x.image();
        x.drop(0);
        x.find(9, 9, 9, 9);
        x.image();
        x.drop(0);
        x.find(8, 8, 8, 8);
        x.restore();
        Check.due("the find of the second", x.found(0, 0), 9);
        x.drop(0);
        fill(x, 5, 7, 9);
        Check.due("image 2 again", x.image(), 2);
        fill(x, 2, 9, 11);
        x.restore();
        dueFilled(x, 5, 7, 9);
        x.restore();
        dueFilled(x, 1, 1, 1);
    }
}
