/** The sentences of part 4: how many there were, seats, shops, what to look at next, signs, and what may be said. */
public final class CountingTest {
    public static void main(String[] args) {
        after();
        afterAtItsBounds();
        seats();
        share();
        together();
        shops();
        rare();
        span();
        next();
        nextIsTheFirst();
        nextWithoutLookedAt();
        signs();
        signsFromAHourOn();
        said();
        Check.end("CountingTest");
    }

    private static void dueAfter(WoolThreads x, int sort, int left, int hours, int least, int most) {
        String call = "after(" + sort + ", " + left + ", " + hours + ", ";
        Check.due(call + "false)", x.after(sort, left, hours, false), least);
        Check.due(call + "true)", x.after(sort, left, hours, true), most);
    }

    private static void after() {
        Check.sentence("AFTER: by hold of a SORT (not 0), the least and the greatest number (to 99,999) of which so many are left behind so many HOURS (0 to 60; by HOUR cut).");
        WoolThreads x = Check.with("hold 1 1;hold 2 8;hold 3 15;hold 4 0;hold 5 3;");
        for (int sort = 0; sort < 6; sort++) {
            int it = sort;
            if (sort != 4) {
                dueAfter(x, sort, 0, 0, 0, 0);
                dueAfter(x, sort, 1, 0, 1, 1);
                dueAfter(x, sort, 9998, 0, 9998, 9998);
                dueAfter(x, sort, 9999, 0, 9999, 9999);
                Check.iae(x, "left -1", () -> x.after(it, -1, 0, true));
                Check.iae(x, "left 10,000", () -> x.after(it, 10000, 0, true));
                Check.iae(x, "-1 hours", () -> x.after(it, 0, -1, true));
                Check.iae(x, "61 hours", () -> x.after(it, 0, 61, true));
            } else {
                Check.iae(x, "hold 0", () -> x.after(it, 0, 0, true));
                Check.iae(x, "hold 0, least", () -> x.after(it, 0, 1, false));
            }
        }
        // all is held
        dueAfter(x, 0, 9999, 60, 9999, 9999);
        dueAfter(x, 0, 0, 60, 0, 0);
        // a sixteenth, a half, and three sixteenths
        dueAfter(x, 1, 0, 1, 0, 15);
        dueAfter(x, 1, 1, 1, 16, 31);
        dueAfter(x, 1, 1, 2, 256, 511);
        dueAfter(x, 2, 3, 1, 6, 7);
        dueAfter(x, 2, 3, 2, 12, 15);
        dueAfter(x, 5, 1, 1, 6, 10);
        dueAfter(x, 5, 2, 1, 11, 15);
        dueAfter(x, 5, 1, 2, 32, 58);
        // fifteen of sixteen: one hour is cut ahead of the next, and nothing of one thread is left
        dueAfter(x, 3, 0, 1, 0, 1);
        dueAfter(x, 3, 0, 2, 0, 2);
        dueAfter(x, 3, 14, 1, 15, 15);
        dueAfter(x, 3, 15, 1, 16, 17);
        dueAfter(x, 3, 15, 2, 18, 19);
    }

    private static void afterAtItsBounds() {
        WoolThreads x = Check.with("hold 1 1;hold 2 8;hold 3 15;hold 6 14;");
        dueAfter(x, 1, 6248, 1, 99968, 99983);
        dueAfter(x, 1, 6249, 1, 99984, 99999);
        dueAfter(x, 1, 6250, 1, WoolThreads.NONE, WoolThreads.NONE);
        dueAfter(x, 1, 1, 4, 65536, 99999);
        dueAfter(x, 1, 2, 4, WoolThreads.NONE, WoolThreads.NONE);
        dueAfter(x, 1, 0, 4, 0, 65535);
        dueAfter(x, 1, 0, 5, 0, 99999);
        dueAfter(x, 1, 1, 5, WoolThreads.NONE, WoolThreads.NONE);
        dueAfter(x, 2, 9999, 3, 79992, 79999);
        dueAfter(x, 2, 9999, 4, WoolThreads.NONE, WoolThreads.NONE);
        dueAfter(x, 2, 0, 60, 0, 99999);
        dueAfter(x, 2, 1, 60, WoolThreads.NONE, WoolThreads.NONE);
        // what is left of 99,999 behind 60 hours, and one more
        int left = 99999;
        for (int i = 0; i < 60; i++) {
            left = left * 15 / 16;
        }
        Check.due("the greatest behind 60 hours", x.after(3, left, 60, true), 99999);
        dueAfter(x, 3, left + 1, 60, WoolThreads.NONE, WoolThreads.NONE);
        // every number is tried: the one ahead of the least leaves less, the one behind the greatest more
        for (int hours : new int[] {1, 2, 59, 60}) {
            for (int many : new int[] {0, 1, 2, 7, 100}) {
                int least = x.after(6, many, hours, false);
                int most = x.after(6, many, hours, true);
                int[] tried = tried(14, hours, many);
                Check.due("the least of which " + many + " are left", least, tried[0]);
                Check.due("the greatest of which " + many + " are left", most, tried[1]);
            }
        }
    }

    private static int[] tried(int hold, int hours, int left) {
        int[] found = {-1, -1};
        for (int number = 0; number <= 99999; number++) {
            int rest = number;
            for (int i = 0; i < hours; i++) {
                rest = rest * hold / 16;
            }
            if (rest == left) {
                found[0] = found[0] < 0 ? number : found[0];
                found[1] = number;
            }
        }
        return found;
    }

    private static void seats() {
        Check.sentence("SEATS, 40 at most, are told with SORTS found on them (ten bits).");
        WoolThreads x = new WoolThreads();
        Check.due("seat(0)", x.seat(0), 1);
        Check.due("seat(1)", x.seat(1), 2);
        Check.due("seat(1022)", x.seat(1022), 3);
        Check.due("seat(1023)", x.seat(1023), 4);
        Check.iae(x, "seat(1024)", () -> x.seat(1024));
        Check.iae(x, "seat(1025)", () -> x.seat(1025));
        Check.iae(x, "seat(2048)", () -> x.seat(2048));
        for (int no : Check.FAR) {
            Check.iae(x, "seat(" + no + ")", () -> x.seat(no));
        }
        for (int i = 5; i <= 40; i++) {
            Check.due("seat " + i, x.seat(1), i);
        }
        Check.due("seat 41", x.seat(1), -1);
        Check.due("seat 41 of all sorts", x.seat(1023), -1);
        Check.due("seats", x.count(3), 40);
        Check.due("share of sort 0", x.share(0), 38);
        Check.due("share of sort 9", x.share(9), 2);
        Check.iae(x, "seat(1024) of forty", () -> x.seat(1024));
    }

    private static void share() {
        Check.sentence("SHARE of a SORT: on how many.");
        WoolThreads x = new WoolThreads();
        for (int sort = 0; sort < 10; sort++) {
            Check.due("share of no seats", x.share(sort), 0);
        }
        for (int i = 1; i <= 40; i++) {
            // sort s is on each seat whose number s + 1 divides
            int sorts = 0;
            for (int sort = 0; sort < 10; sort++) {
                sorts |= i % (sort + 1) == 0 ? 1 << sort : 0;
            }
            x.seat(sorts);
            for (int sort = 0; sort < 10; sort++) {
                Check.due("share(" + sort + ") of " + i, x.share(sort), i / (sort + 1));
            }
        }
    }

    private static void together() {
        Check.sentence("TOGETHER are two SORTS: how many SEATS have both times all SEATS, less how many have the one times how many have the other.");
        WoolThreads x = new WoolThreads();
        Check.due("together of no seats", x.together(0, 9), 0);
        Check.due("together of no seats with itself", x.together(0, 0), 0);
        x.seat(1);
        Check.due("together of one seat", x.together(0, 9), 0);
        x.seat(512);
        Check.due("apart on two seats", x.together(0, 9), -1);
        Check.due("with itself on two seats", x.together(0, 0), 1);
        WoolThreads with = new WoolThreads();
        WoolThreads apart = new WoolThreads();
        WoolThreads all = new WoolThreads();
        for (int i = 0; i < 40; i++) {
            with.seat(i < 20 ? 513 : 0);
            apart.seat(i < 20 ? 1 : 512);
            all.seat(1023);
        }
        Check.due("the most", with.together(0, 9), 20 * 40 - 20 * 20);
        Check.due("the most, the other first", with.together(9, 0), 400);
        Check.due("the least", apart.together(0, 9), -400);
        Check.due("the least, the other first", apart.together(9, 0), -400);
        Check.due("of none", with.together(3, 4), 0);
        Check.due("everywhere", all.together(0, 9), 0);
        WoolThreads uneven = new WoolThreads();
        for (int sorts : new int[] {3, 3, 1, 2, 2, 0, 0}) {
            uneven.seat(sorts);
        }
        Check.due("two of seven have both", uneven.together(0, 1), 2 * 7 - 3 * 4);
        Check.due("one with itself", uneven.together(1, 1), 4 * 7 - 4 * 4);
        Check.due("one with none", uneven.together(1, 2), 0);
    }

    private static void shops() {
        Check.sentence("SHOPS, 12 at most: a SORT, how much of it was sold, of how much in all:");
        WoolThreads x = new WoolThreads();
        for (int i = 1; i <= 12; i++) {
            Check.due("shop " + i, x.shop(i % 10, i, 100), i);
            Check.due("shops", x.count(4), i);
        }
        Check.due("shop 13", x.shop(0, 1, 1), -1);
        Check.due("shops", x.count(4), 12);
        Check.due("the last one counts", x.rare(2, 0), 70);
        Check.due("the 13th does not", x.rare(0, 0), 100);
        Check.iae(x, "a 13th of sort 10", () -> x.shop(10, 1, 1));
        WoolThreads y = new WoolThreads();
        Check.due("0 of 1", y.shop(0, 0, 1), 1);
        Check.due("1 of 1", y.shop(1, 1, 1), 2);
        Check.due("999,999 of 1,000,000", y.shop(2, 999999, 1000000), 3);
        Check.due("1,000,000 of 1,000,000", y.shop(3, 1000000, 1000000), 4);
        Check.due("999,999 of 999,999", y.shop(9, 999999, 999999), 5);
        Check.iae(y, "-1 of 1", () -> y.shop(0, -1, 1));
        Check.iae(y, "2 of 1", () -> y.shop(0, 2, 1));
        Check.iae(y, "0 of 0", () -> y.shop(0, 0, 0));
        Check.iae(y, "0 of -1", () -> y.shop(0, 0, -1));
        Check.iae(y, "0 of 1,000,001", () -> y.shop(0, 0, 1000001));
        Check.iae(y, "1,000,001 of 1,000,000", () -> y.shop(0, 1000001, 1000000));
        Check.iae(y, "1,000,001 of 1,000,001", () -> y.shop(0, 1000001, 1000001));
    }

    private static void rare() {
        Check.sentence("RARE: 1,000 times the one together by the other together (cut; of shops that tell of that SORT), NONE without;");
        WoolThreads x = new WoolThreads();
        for (int sort = 0; sort < 10; sort++) {
            Check.due("rare of no shops", x.rare(sort, 0), WoolThreads.NONE);
        }
        x.shop(4, 0, 1000000);
        Check.due("nothing sold", x.rare(4, 0), 0);
        x.shop(4, 999, 1000000);
        Check.due("999 of 2,000,000", x.rare(4, 0), 0);
        x.shop(4, 2001, 1000000);
        Check.due("3,000 of 3,000,000", x.rare(4, 0), 1);
        x.shop(5, 1, 1);
        Check.due("another sort counts apart", x.rare(4, 0), 1);
        Check.due("that one", x.rare(5, 0), 1000);
        Check.due("a third one", x.rare(6, 0), WoolThreads.NONE);
        // together, not one by one: 1 of 1 and 0 of 999 are 1 of 1,000
        x.shop(7, 1, 1);
        x.shop(7, 0, 999);
        Check.due("1 of 1,000", x.rare(7, 0), 1);
        WoolThreads all = new WoolThreads();
        for (int i = 0; i < 12; i++) {
            all.shop(9, 1000000, 1000000);
        }
        Check.due("twelve of a million", all.rare(9, 0), 1000);
        WoolThreads nearly = new WoolThreads();
        for (int i = 0; i < 12; i++) {
            nearly.shop(9, i == 0 ? 999999 : 1000000, 1000000);
        }
        Check.due("all but one of twelve million", nearly.rare(9, 0), 999);
    }

    private static void span() {
        Check.sentence("the SPAN of it: the least and the greatest of single shops.");
        WoolThreads x = new WoolThreads();
        Check.due("the least without", x.rare(0, 1), WoolThreads.NONE);
        Check.due("the greatest without", x.rare(0, 2), WoolThreads.NONE);
        int[] sold = {500, 499, 501, 999, 1, 1000, 0};
        int[] least = {500, 499, 499, 499, 1, 1, 0};
        int[] most = {500, 500, 501, 999, 999, 1000, 1000};
        x.shop(1, 0, 1000);
        for (int i = 0; i < sold.length; i++) {
            x.shop(0, sold[i], 1000);
            Check.due("the least of " + (i + 1), x.rare(0, 1), least[i]);
            Check.due("the greatest of " + (i + 1), x.rare(0, 2), most[i]);
        }
        Check.due("the greatest of another sort", x.rare(1, 2), 0);
        // each is cut by itself
        WoolThreads cut = new WoolThreads();
        cut.shop(0, 2, 3);
        cut.shop(0, 1999, 2000);
        Check.due("the least, cut", cut.rare(0, 1), 666);
        Check.due("the greatest, cut", cut.rare(0, 2), 999);
        WoolThreads full = new WoolThreads();
        for (int i = 0; i < 12; i++) {
            full.shop(0, i == 11 ? 1 : 2, 4);
        }
        Check.due("the twelfth is the least", full.rare(0, 1), 250);
        Check.due("the others are the greatest", full.rare(0, 2), 500);
    }

    private static void next() {
        Check.sentence("NEXT between two STORIES: of PLACES, SORTS and an HOUR those with the greatest difference of PILES;");
        WoolThreads x = Check.with("shed 0 0 5;shed 0 9 6;shed 1 3 59;shed 2 3 60;common 8 20;",
            "", "wear 0 0 at 3;touch 0 9 at 3;touch 0 9 at 5;", "wear 0 1 at 3;touch 0 4 at 3;", "wear 0 2 at 3;touch 0 4 at 3;");
        for (int hour : new int[] {0, 1, 2}) {
            Check.due("nothing differs ahead of 3", x.next(0, 1, hour), WoolThreads.NONE);
        }
        Check.due("6 on 9 of 9", x.next(0, 1, 3), 699);
        Check.due("the other way round", x.next(1, 0, 4), 699);
        Check.due("12 on 9 of 9", x.next(0, 1, 5), 1299);
        Check.due("at the last hour", x.next(1, 0, 99), 1299);
        Check.due("59 on 4 of 3", x.next(0, 2, 3), 5943);
        Check.due("60 on 4 of 3", x.next(0, 3, 3), 6043);
        Check.due("1 on 4 of 3", x.next(2, 3, 3), 143);
        Check.due("with itself", x.next(3, 3, 3), WoolThreads.NONE);
        WoolThreads cut = Check.with("shed 0 0 60;shed 1 0 61;", "wear 0 0 at 0;touch 0 1 at 0;", "wear 0 1 at 0;touch 0 1 at 0;");
        Check.due("piles of 60 and 61 are alike", cut.next(0, 1, 0), WoolThreads.NONE);
    }

    private static void nextIsTheFirst() {
        Check.sentence("of these the first (PLACE by PLACE, then by SORT)");
        WoolThreads x = Check.with("shed 0 9 5;shed 1 0 5;shed 1 1 5;", "", "wear 9 0 at 0;touch 9 0 at 0;wear 9 1 at 1;touch 9 1 at 1;", "wear 9 1 at 0;touch 9 8 at 0;", "wear 9 1 at 0;touch 9 0 at 0;");
        Check.due("place 0, sort 9, ahead of place 1, sort 0", x.next(0, 1, 1), 509);
        Check.due("place 8, sort 0, ahead of sort 1", x.next(0, 2, 0), 580);
        Check.due("place 0, sort 0, ahead of all", x.next(0, 3, 0), 500);
        WoolThreads greater = Check.with("shed 0 0 5;shed 1 0 6;", "", "wear 9 0 at 0;touch 9 0 at 0;wear 9 1 at 0;touch 9 8 at 0;");
        Check.due("the greatest ahead of the first", greater.next(0, 1, 0), 680);
    }

    private static void nextWithoutLookedAt() {
        Check.sentence(", without those that were looked at (a FIND of that PLACE, HOUR and SORT, or one ALIKE).");
        WoolThreads x = Check.with("shed 0 1 9;shed 0 5 8;shed 0 6 7;alike 5 7;", "wear 0 0 at 2;touch 0 4 at 2;", "");
        x.find(4, 3, 1, 9);
        x.find(3, 2, 1, 9);
        x.find(4, 2, 2, 9);
        Check.due("another hour, place and sort", x.next(0, 1, 2), 941);
        x.find(4, 2, 1, 0);
        Check.due("looked for, and none", x.next(0, 1, 2), 845);
        x.find(4, 2, 7, 3);
        Check.due("one alike", x.next(0, 1, 2), 746);
        x.find(4, 2, 6, 60);
        Check.due("all that differ were looked at", x.next(0, 1, 2), WoolThreads.NONE);
        Check.due("but not at that hour", x.next(0, 1, 99), 941);
        x.drop(3);
        Check.due("one is taken back", x.next(0, 1, 2), 941);
    }

    private static void signs() {
        Check.sentence("SIGNS of a touch of a STORY: 1 if some SORT that the first one's GARMENT sheds (that it wears then; more than 0) is that of a FIND (of more than 0) on the second PLACE at that HOUR or later, 2 if likewise of the second on the first; both together 3.");
        String law = "shed 0 0 1;shed 0 5 0;shed 1 9 200;alike 0 8;";
        String story = "touch 2 3 at 4;wear 2 0 at 4;wear 3 1 at 4;touch 2 3 at 4;touch 3 2 at 4;bare 2 at 5;touch 2 3 at 5;";
        int[][] finds = {{3, 4, 0, 1}, {3, 4, 0, 0}, {3, 4, 5, 1}, {3, 4, 8, 1}, {2, 4, 0, 1}, {2, 4, 9, 1}, {3, 4, 9, 1}, {1, 4, 0, 1}};
        int[] third = {1, 0, 0, 0, 0, 2, 0, 0};
        int[] fourth = {2, 0, 0, 0, 0, 1, 0, 0};
        for (int i = 0; i < finds.length; i++) {
            WoolThreads x = Check.with(law, story);
            Check.due("signs without finds", x.signs(0, 3), 0);
            x.find(finds[i][0], finds[i][1], finds[i][2], finds[i][3]);
            Check.due("signs of nothing worn, find " + i, x.signs(0, 0), 0);
            Check.due("signs of a wear, find " + i, x.signs(0, 1), 0);
            Check.due("signs of a touch, find " + i, x.signs(0, 3), third[i]);
            Check.due("signs of it turned round, find " + i, x.signs(0, 4), fourth[i]);
            Check.due("signs of a bare, find " + i, x.signs(0, 5), 0);
            Check.due("signs of one bare, find " + i, x.signs(0, 6), 0);
        }
        WoolThreads both = Check.with(law, story);
        both.find(3, 99, 0, 60);
        both.find(2, 99, 9, 1);
        Check.due("both together", both.signs(0, 3), 3);
        Check.due("both together turned round", both.signs(0, 4), 3);
        Check.due("one is bare", both.signs(0, 6), 2);
        Check.index(both, "signs(0, 7)", () -> both.signs(0, 7));
        Check.index(both, "signs(0, -1)", () -> both.signs(0, -1));
        WoolThreads full = Check.with(law, "wear 2 0 at 0;" + "bare 5 at 0;".repeat(18) + "touch 2 3 at 0;");
        full.find(3, 0, 0, 1);
        Check.due("the last of twenty", full.signs(0, 19), 1);
        Check.index(full, "signs(0, 20)", () -> full.signs(0, 20));
    }

    private static void signsFromAHourOn() {
        int[] hours = {0, 49, 50, 51, 99};
        for (int i = 0; i < hours.length; i++) {
            WoolThreads x = Check.with("shed 0 0 1;", "wear 2 0 at 0;touch 2 3 at 50;touch 3 2 at 50;");
            x.find(3, hours[i], 0, 1);
            Check.due("a find at " + hours[i], x.signs(0, 1), i < 2 ? 0 : 1);
            Check.due("a find at " + hours[i] + " turned round", x.signs(0, 2), i < 2 ? 0 : 2);
        }
    }

    /** Worth is a power of two here; WeighingTest has it just below and above each line. */
    private static void said() {
        Check.sentence("SAID may be by a line (WORTH): 0 nothing (below 10), 1 it speaks for it (10), 2 strongly (1,000), 3 it is sure but for words (1,000,000).");
        int[] halves = {0, 1, 3, 4, 9, 10, 19, 20, 60};
        int[] want = {0, 0, 0, 1, 1, 2, 2, 3, 3};
        for (int i = 0; i < halves.length; i++) {
            WoolThreads x = Check.with("shed 0 0 " + halves[i] + ";", "wear 0 0 at 0;touch 0 1 at 0;", "");
            x.find(1, 0, 0, 0);
            Check.due("said of 2 to the power of " + halves[i], x.said(1, 0), want[i]);
            Check.due("said the other way", x.said(0, 1), 0);
        }
        WoolThreads x = Check.with("shed 0 0 4;", "wear 0 0 at 0;touch 0 1 at 0;", "");
        Check.due("said without finds", x.said(0, 1), 0);
        x.find(1, 0, 0, 1);
        Check.due("the other is not likely", x.said(0, 1), 3);
        x.find(1, 0, 0, 5);
        Check.due("both are not", x.said(0, 1), 0);
    }
}
