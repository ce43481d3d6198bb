/** Promises 9 to 11, 21 and 24: a story is run. */
public final class StoryTest {
    public static void main(String[] args) {
        touches();
        hours();
        most();
        piles();
        worn();
        lawsChange();
        ways();
        wrong();
        Check.end("StoryTest");
    }

    private static void dueLies(WoolThreads x, int place, int sort, int hour, int want) {
        Check.due("lies(0, " + place + ", " + sort + ", " + hour + ")", x.lies(0, place, sort, hour), want);
    }

    private static void touches() {
        WoolThreads x = Check.with("shed 0 0 100;shed 1 1 33;shed 1 0 7;pass 5;",
            "touch 0 1 at 0;wear 0 0 at 1;wear 1 1 at 1;touch 0 1 at 1;touch 1 0 at 1;bare 0 at 2;touch 0 1 at 2;wear 1 2 at 3;touch 0 1 at 3;");
        dueLies(x, 0, 0, 0, 0);
        dueLies(x, 1, 0, 0, 0);
        // at 1: 100 on 1 and 7 on 0 of sort 0; then 31 and 2 go over, and as many are shed again
        dueLies(x, 0, 0, 1, 7 - 2 + 31 + 7);
        dueLies(x, 1, 0, 1, 100 - 31 + 2 + 100);
        dueLies(x, 0, 1, 1, 33 - 10 + 33);
        dueLies(x, 1, 1, 1, 10);
        // at 2: 43 and 171 lie there; 13 and 53 go over; only 1 sheds
        dueLies(x, 0, 0, 2, 43 - 13 + 53 + 7);
        dueLies(x, 1, 0, 2, 171 - 53 + 13);
        // at 3: 90 and 131 lie there; 28 and 40 go over; nothing is shed
        dueLies(x, 0, 0, 3, 90 - 28 + 40);
        dueLies(x, 1, 0, 3, 131 - 40 + 28);
        for (int place = 2; place < 10; place++) {
            dueLies(x, place, 0, 3, 0);
        }
        Check.due("events(0)", x.events(0), 9);
    }

    private static void hours() {
        WoolThreads x = Check.with("shed 0 0 100;shed 0 1 100;hold 0 15;wash 9;",
            "wear 0 0 at 0;touch 0 1 at 10;shake 1 7 at 12;wash 1 at 12;touch 1 0 at 99;");
        dueLies(x, 1, 0, 9, 0);
        dueLies(x, 1, 0, 10, 100);
        dueLies(x, 1, 0, 11, 93);
        // 87 as it begins, then 38, then 21
        dueLies(x, 1, 0, 12, 21);
        dueLies(x, 1, 1, 11, 100);
        dueLies(x, 1, 1, 12, 24);
        dueLies(x, 1, 0, 13, 19);
        dueLies(x, 1, 1, 98, 24);
        dueLies(x, 1, 1, 99, 124);
        dueLies(x, 1, 0, 98, 0);
        dueLies(x, 1, 0, 99, 100);
        WoolThreads none = Check.with("shed 0 0 100;hold 0 0;", "wear 0 0 at 3;touch 0 1 at 3;");
        dueLies(none, 1, 0, 3, 100);
        dueLies(none, 1, 0, 4, 0);
        WoolThreads first = Check.with("shed 0 0 100;hold 0 8;", "wear 9 0 at 0;touch 9 0 at 0;touch 9 8 at 0;");
        dueLies(first, 0, 0, 0, 100);
        dueLies(first, 0, 0, 1, 50);
        dueLies(first, 8, 0, 3, 12);
        dueLies(first, 0, 0, 99, 0);
        WoolThreads washed = Check.with("shed 0 0 100;", "wear 0 0 at 3;touch 0 1 at 3;wash 1 at 3;wash 0 at 3;");
        dueLies(washed, 1, 0, 3, 0);
        WoolThreads shaken = Check.with("shed 0 0 100;", "wear 0 0 at 3;touch 0 1 at 3;shake 1 16 at 3;shake 1 0 at 4;");
        dueLies(shaken, 1, 0, 3, 100);
        dueLies(shaken, 1, 0, 4, 0);
    }

    /** 9,999 at most cannot be reached by 20 touches of 200, so passing is what is looked at here. */
    private static void most() {
        WoolThreads x = Check.with("shed 0 0 200;shed 1 0 200;pass 8;",
            "wear 0 0 at 0;wear 1 1 at 0;" + Check.times("touch 0 1 at 0;", 18));
        dueLies(x, 0, 0, 0, 3600);
        dueLies(x, 1, 0, 0, 3600);
    }

    private static void piles() {
        WoolThreads x = Check.with("shed 0 0 10;shed 0 1 11;shed 0 2 12;shed 0 5 59;shed 0 6 60;shed 0 7 200;common 0 3;common 1 4;common 3 20;common 5 1;common 6 1;alike 0 3;alike 3 1;",
            "wear 0 0 at 5;touch 0 1 at 5;");
        int[] want = {48, 48, 12, 48, 0, 60, 60, 60, 0, 0};
        int[] before = {27, 27, 0, 27, 0, 1, 1, 0, 0, 0};
        for (int sort = 0; sort < 10; sort++) {
            Check.due("pile(0, 1, " + sort + ", 5)", x.pile(0, 1, sort, 5), want[sort]);
            Check.due("pile(0, 1, " + sort + ", 4)", x.pile(0, 1, sort, 4), before[sort]);
            Check.due("pile(0, 0, " + sort + ", 5)", x.pile(0, 0, sort, 5), before[sort]);
        }
        dueLies(x, 1, 7, 5, 200);
    }

    private static void worn() {
        WoolThreads x = Check.with("", "wear 3 7 at 2;wear 3 0 at 4;bare 3 at 4;bare 4 at 4;wear 4 1 at 4;wear 9 6 at 99;touch 3 4 at 99;");
        int[] hours = {0, 1, 2, 3, 4, 5, 98, 99};
        int[] three = {-1, -1, 7, 7, -1, -1, -1, -1};
        int[] four = {-1, -1, -1, -1, 1, 1, 1, 1};
        int[] nine = {-1, -1, -1, -1, -1, -1, -1, 6};
        for (int i = 0; i < hours.length; i++) {
            Check.due("wears(0, 3, " + hours[i] + ")", x.wears(0, 3, hours[i]), three[i]);
            Check.due("wears(0, 4, " + hours[i] + ")", x.wears(0, 4, hours[i]), four[i]);
            Check.due("wears(0, 9, " + hours[i] + ")", x.wears(0, 9, hours[i]), nine[i]);
            Check.due("wears(0, 0, " + hours[i] + ")", x.wears(0, 0, hours[i]), -1);
        }
        Check.due("events(0)", x.events(0), 7);
    }

    private static void lawsChange() {
        WoolThreads x = Check.with("shed 0 0 10;", "wear 0 0 at 0;touch 0 1 at 0;");
        dueLies(x, 1, 0, 5, 10);
        Check.law(x, "shed 0 0 20;hold 0 8;");
        dueLies(x, 1, 0, 1, 10);
        dueLies(x, 1, 0, 5, 0);
        Check.law(x, "shed 0 0 201;");
        dueLies(x, 1, 0, 1, 10);
        Check.law(x, "");
        dueLies(x, 1, 0, 1, 0);
    }

    private static void ways() {
        WoolThreads x = Check.with("shed 0 0 16;shed 1 0 1;pass 8;wash 4;hold 0 12;",
            "wear 0 0 at 0;touch 0 1 at 0;touch 2 0 at 0;wear 1 1 at 1;touch 2 1 at 1;touch 3 1 at 1;touch 2 3 at 1;shake 1 12 at 2;touch 1 2 at 2;");
        // by way of 2: 16 come on 2; 12 at 1, of which 6 go over, and 1 is shed on 2: 7 on it
        Check.due("byWay at 0", x.byWay(0, 0, 1, 2, 0, 0), 0);
        Check.due("byWay at 1", x.byWay(0, 0, 1, 2, 0, 1), 6);
        // at 2 4 lie on 1, shaken 3, of which 1 goes over; 5 lie on 2, of which 2 go over
        Check.due("byWay at 2", x.byWay(0, 0, 1, 2, 0, 2), 4);
        Check.due("byWay the other way round", x.byWay(0, 1, 0, 2, 0, 0), 0);
        // by way of 3 nothing touches 0, but 1 touches 3 and sheds
        Check.due("byWay of 3", x.byWay(0, 0, 1, 3, 0, 1), 0);
        Check.due("byWay from 2 to 3 by 1", x.byWay(0, 2, 3, 1, 0, 1), 1);
        Check.due("the story stays", x.lies(0, 1, 0, 0), 16);
        WoolThreads bare = Check.with("shed 0 0 16;", "wear 0 0 at 0;touch 0 1 at 0;", "touch 0 1 at 0;touch 0 2 at 0;");
        bare.counts(0, 1);
        Check.due("byWay of a story behind another", bare.byWay(1, 0, 2, 1, 0, 0), 0);
        Check.due("byWay of it on 1", bare.byWay(1, 2, 1, 0, 0, 0), 0);
        Check.due("events(0)", x.events(0), 9);
    }

    private static void wrong() {
        WoolThreads x = Check.with("shed 0 0 10;", "wear 0 0 at 0;touch 0 1 at 0;");
        for (int no : new int[] {-1, 1, 4, Integer.MAX_VALUE, Integer.MIN_VALUE}) {
            Check.nse(x, "lies of story " + no, () -> x.lies(no, 0, 0, 0));
            Check.nse(x, "pile of story " + no, () -> x.pile(no, 0, 0, 0));
            Check.nse(x, "wears of story " + no, () -> x.wears(no, 0, 0));
            Check.nse(x, "events of story " + no, () -> x.events(no));
            Check.nse(x, "byWay of story " + no, () -> x.byWay(no, 0, 1, 2, 0, 0));
            Check.nse(x, "lies of story and place " + no, () -> x.lies(no, -1, 0, 0));
        }
        for (int no : new int[] {-1, 10, Integer.MAX_VALUE, Integer.MIN_VALUE}) {
            Check.iae(x, "lies of place " + no, () -> x.lies(0, no, 0, 0));
            Check.iae(x, "lies of sort " + no, () -> x.lies(0, 0, no, 0));
            Check.iae(x, "pile of place " + no, () -> x.pile(0, no, 0, 0));
            Check.iae(x, "pile of sort " + no, () -> x.pile(0, 0, no, 0));
            Check.iae(x, "wears of place " + no, () -> x.wears(0, no, 0));
            Check.iae(x, "byWay of first " + no, () -> x.byWay(0, no, 1, 2, 0, 0));
            Check.iae(x, "byWay of second " + no, () -> x.byWay(0, 0, no, 2, 0, 0));
            Check.iae(x, "byWay of third " + no, () -> x.byWay(0, 0, 1, no, 0, 0));
            Check.iae(x, "byWay of sort " + no, () -> x.byWay(0, 0, 1, 2, no, 0));
        }
        for (int no : new int[] {-1, 100, Integer.MAX_VALUE, Integer.MIN_VALUE}) {
            Check.iae(x, "lies at hour " + no, () -> x.lies(0, 0, 0, no));
            Check.iae(x, "pile at hour " + no, () -> x.pile(0, 0, 0, no));
            Check.iae(x, "wears at hour " + no, () -> x.wears(0, 0, no));
            Check.iae(x, "byWay at hour " + no, () -> x.byWay(0, 0, 1, 2, 0, no));
        }
        Check.iae(x, "byWay first is second", () -> x.byWay(0, 1, 1, 2, 0, 0));
        Check.iae(x, "byWay first is third", () -> x.byWay(0, 1, 2, 1, 0, 0));
        Check.iae(x, "byWay second is third", () -> x.byWay(0, 1, 2, 2, 0, 0));
    }
}
