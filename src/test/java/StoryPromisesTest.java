/** Promises 9 to 25, each under its own words: what stories tell, finds, how likely they are, and stories that are varied. */
public final class StoryPromisesTest {
    private static final String LAW = "shed 0 0 4;shed 7 9 5;hold 9 8;common 3 2;pass 8;";
    private static final String STORY = "wear 0 0 at 0;wear 9 7 at 0;touch 0 9 at 1;touch 9 5 at 99;";

    public static void main(String[] args) {
        promise9();
        promise9Refused();
        promise10();
        promise11();
        promise12();
        promise13();
        promise14();
        promise15();
        promise16();
        promise17();
        promise18();
        promise19();
        promise20();
        promise21();
        promise22();
        promise23();
        promise24();
        promise25();
        Check.end("StoryPromisesTest");
    }

    /** Two stories, three finds: so one beyond is told apart from one that is full. */
    private static WoolThreads some() {
        WoolThreads x = Check.with(LAW, STORY, "");
        x.find(9, 1, 0, 0);
        x.find(0, 1, 9, 2);
        x.find(5, 99, 3, 1);
        return x;
    }

    private static void promise9() {
        Check.promise(9, "LIES by a STORY.");
        WoolThreads x = some();
        Check.due("of place 9, sort 0", x.lies(0, 9, 0, 1), 4);
        Check.due("of place 0, sort 9", x.lies(0, 0, 9, 1), 5);
        Check.due("at hour 0", x.lies(0, 0, 9, 0), 0);
        Check.due("at hour 2", x.lies(0, 0, 9, 2), 2);
        Check.due("at hour 98", x.lies(0, 9, 0, 98), 4);
        Check.due("at hour 99, half of it gone over", x.lies(0, 9, 0, 99), 2);
        Check.due("at hour 99 on 5", x.lies(0, 5, 0, 99) * 10 + x.lies(0, 5, 9, 99), 25);
        Check.due("by the other story", x.lies(1, 9, 0, 99), 0);
    }

    private static void promise9Refused() {
        Check.promise(9, "NoSuchElementException: no such STORY (so below); IllegalArgumentException: no such PLACE, SORT, HOUR (so below).");
        WoolThreads x = some();
        Check.nseBeyond(x, "lies of a story", story -> x.lies(story, 0, 0, 0));
        Check.iaeBeyond(x, "lies of a place", 9, place -> x.lies(1, place, 9, 99));
        Check.iaeBeyond(x, "lies of a sort", 9, sort -> x.lies(1, 9, sort, 99));
        Check.iaeBeyond(x, "lies at an hour", 99, hour -> x.lies(1, 9, 9, hour));
        WoolThreads none = new WoolThreads();
        Check.nse(none, "lies of no story", () -> none.lies(0, 0, 0, 0));
        Check.nse(none, "lies of no story and no place", () -> none.lies(0, 10, 10, 100));
        WoolThreads four = Check.with("", "", "", "", "");
        Check.nseBeyond(four, "lies of one of four", story -> four.lies(story, 0, 0, 0));
    }

    private static void promise10() {
        Check.promise(10, "PILE.");
        WoolThreads x = some();
        Check.due("pile of sort 0", x.pile(0, 9, 0, 1), 4);
        Check.due("pile of sort 3", x.pile(0, 9, 3, 1), 2);
        Check.due("pile of sort 3 by the other", x.pile(1, 0, 3, 99), 2);
        Check.nseBeyond(x, "pile of a story", story -> x.pile(story, 0, 0, 0));
        Check.iaeBeyond(x, "pile of a place", 9, place -> x.pile(1, place, 9, 99));
        Check.iaeBeyond(x, "pile of a sort", 9, sort -> x.pile(1, 9, sort, 99));
        Check.iaeBeyond(x, "pile at an hour", 99, hour -> x.pile(1, 9, 9, hour));
        Check.nse(x, "pile of no story and no place", () -> x.pile(2, 10, 10, 100));
    }

    private static void promise11() {
        Check.promise(11, "What a PLACE wears when an HOUR is over; NONE.");
        WoolThreads x = Check.with("", "wear 0 0 at 0;wear 9 7 at 50;bare 0 at 50;wear 5 3 at 99;", "");
        int[] hours = {0, 1, 49, 50, 98, 99};
        int[] zero = {0, 0, 0, -1, -1, -1};
        int[] five = {-1, -1, -1, -1, -1, 3};
        int[] nine = {-1, -1, -1, 7, 7, 7};
        for (int i = 0; i < hours.length; i++) {
            Check.due("wears(0, 0, " + hours[i] + ")", x.wears(0, 0, hours[i]), zero[i]);
            Check.due("wears(0, 5, " + hours[i] + ")", x.wears(0, 5, hours[i]), five[i]);
            Check.due("wears(0, 9, " + hours[i] + ")", x.wears(0, 9, hours[i]), nine[i]);
            Check.due("wears(1, 0, " + hours[i] + ")", x.wears(1, 0, hours[i]), WoolThreads.NONE);
        }
        Check.nseBeyond(x, "wears of a story", story -> x.wears(story, 0, 0));
        Check.iaeBeyond(x, "wears of a place", 9, place -> x.wears(1, place, 99));
        Check.iaeBeyond(x, "wears at an hour", 99, hour -> x.wears(1, 9, hour));
        Check.nse(x, "wears of no story and no place", () -> x.wears(-1, -1, -1));
    }

    private static void promise12() {
        Check.promise(12, "A FIND: its number; -1: there are 8.");
        WoolThreads x = new WoolThreads();
        for (int i = 0; i < 8; i++) {
            Check.due("find " + i, x.find(i, 99, 9, 60), i);
        }
        String before = State.of(x);
        Check.due("find 8", x.find(0, 0, 0, 0), -1);
        Check.due("find 9", x.find(0, 0, 0, 0), -1);
        Check.dueText("nothing changes", State.of(x), before);
        Check.due("drop(0)", x.drop(0), 7);
        Check.due("there is room again", x.find(0, 0, 0, 0), 7);
        Check.due("and none", x.find(0, 0, 0, 0), -1);
        Check.promise(12, "IllegalArgumentException: also how many.");
        WoolThreads y = some();
        for (int no : new int[] {-1, 10, Integer.MIN_VALUE, Integer.MAX_VALUE}) {
            Check.iae(y, "find on " + no, () -> y.find(no, 0, 0, 0));
            Check.iae(y, "find of sort " + no, () -> y.find(0, 0, no, 0));
        }
        for (int no : new int[] {-1, 100, Integer.MIN_VALUE, Integer.MAX_VALUE}) {
            Check.iae(y, "find at " + no, () -> y.find(0, no, 0, 0));
        }
        for (int no : new int[] {-1, 61, Integer.MIN_VALUE, Integer.MAX_VALUE}) {
            Check.iae(y, "find of " + no, () -> y.find(0, 0, 0, no));
        }
        Check.due("within all bounds", y.find(8, 98, 8, 59), 3);
        Check.due("at all bounds", y.find(9, 99, 9, 60), 4);
        Check.due("at all lower bounds", y.find(0, 0, 0, 0), 5);
        Check.iae(x, "a wrong one, there being eight", () -> x.find(0, 0, 0, 61));
    }

    private static void promise13() {
        Check.promise(13, "Of a FIND: 0 PLACE, 1 HOUR, 2 SORT, 3 how many.");
        WoolThreads x = new WoolThreads();
        x.find(1, 2, 3, 4);
        x.find(9, 99, 8, 60);
        int[][] want = {{1, 2, 3, 4}, {9, 99, 8, 60}};
        for (int find = 0; find < 2; find++) {
            for (int what = 0; what <= 3; what++) {
                Check.due("found(" + find + ", " + what + ")", x.found(find, what), want[find][what]);
            }
        }
        Check.iaeBeyond(x, "found of what", 3, what -> x.found(1, what));
        Check.promise(13, "IndexOutOfBoundsException: no such FIND (so below).");
        Check.bounds(x, "found of a find", IndexOutOfBoundsException.class, 0, 1, find -> x.found(find, 3));
        Check.index(x, "found of no find and no what", () -> x.found(2, 4));
        WoolThreads none = new WoolThreads();
        Check.index(none, "found of none", () -> none.found(0, 0));
        WoolThreads full = new WoolThreads();
        for (int i = 0; i < 8; i++) {
            full.find(0, 0, 0, i);
        }
        Check.bounds(full, "found of eight", IndexOutOfBoundsException.class, 0, 7, find -> full.found(find, 3));
    }

    private static void promise14() {
        Check.promise(14, "A FIND is taken back (those behind it have a number less): how many are left.");
        for (int dropped = 0; dropped < 8; dropped++) {
            WoolThreads x = new WoolThreads();
            for (int i = 0; i < 8; i++) {
                x.find(i, i, i, i);
            }
            Check.due("drop(" + dropped + ")", x.drop(dropped), 7);
            for (int i = 0; i < 7; i++) {
                int want = i < dropped ? i : i + 1;
                for (int what = 0; what <= 3; what++) {
                    Check.due("found(" + i + ", " + what + ") behind drop(" + dropped + ")", x.found(i, what), want);
                }
            }
            Check.index(x, "the eighth is gone", () -> x.found(7, 0));
            Check.index(x, "it can't be dropped", () -> x.drop(7));
        }
        WoolThreads one = new WoolThreads();
        one.find(0, 0, 0, 0);
        for (int no : new int[] {-1, 1, Integer.MIN_VALUE, Integer.MAX_VALUE}) {
            Check.index(one, "drop(" + no + ")", () -> one.drop(no));
        }
        Check.due("drop the last one", one.drop(0), 0);
        Check.index(one, "drop of none", () -> one.drop(0));
    }

    private static void promise15() {
        Check.promise(15, "SCALE of a STORY.");
        WoolThreads x = some();
        Check.due("scale(0)", x.scale(0), 4 + 5 + 2);
        Check.due("scale(1)", x.scale(1), 2);
        Check.nseBeyond(x, "scale of a story", x::scale);
        WoolThreads full = Check.with("common 0 20;common 1 20;common 2 20;alike 0 1;alike 1 2;", "");
        for (int i = 0; i <= 8; i++) {
            Check.due("scale of " + i + " finds", full.scale(0), 60 * i);
            full.find(i, i, 0, 60);
        }
    }

    private static void promise16() {
        Check.promise(16, "How many digits its NUMBER has (1: it is 0 to 9).");
        WoolThreads x = Check.with("common 0 1;common 1 2;take 9;", "");
        Check.due("digits of 1", x.digits(0), 1);
        x.find(0, 0, 0, 1);
        Check.due("digits of 9", x.digits(0) * 10 + x.digit(0, 0), 19);
        x.find(0, 0, 2, 1);
        Check.due("digits of 0", x.digits(0) * 10 + x.digit(0, 0), 10);
        x.drop(1);
        x.find(0, 0, 0, 1);
        Check.due("digits of 81", x.digits(0), 2);
        Check.law(x, "common 0 1;common 1 2;take 10;");
        Check.due("digits of 100", x.digits(0), 3);
        x.drop(0);
        Check.due("digits of 10", x.digits(0), 2);
        for (int i = 2; i <= 8; i++) {
            x.find(0, 0, 0, 1);
            Check.due("digits of 10 to the power of " + i, x.digits(0), i + 1);
            Check.due("its highest digit", x.digit(0, i), 1);
            Check.due("its lowest digit", x.digit(0, 0), 0);
        }
        Check.nseBeyond(x, "digits of a story", x::digits);
    }

    private static void promise17() {
        Check.promise(17, "The k-th digit of it, from the lowest on; NONE: there is none.");
        WoolThreads x = Check.with("common 0 4;", "");
        x.find(0, 0, 0, 2);
        // 6 * 8 * 8 * 8 * 8
        int[] want = {6, 7, 5, 4, 2};
        for (int k = 0; k < 5; k++) {
            Check.due("digit(0, " + k + ")", x.digit(0, k), want[k]);
        }
        for (int k : new int[] {5, 6, 9, 10, 600, 1224, 1225, -1, -2, Integer.MIN_VALUE, Integer.MAX_VALUE}) {
            Check.due("digit(0, " + k + ")", x.digit(0, k), WoolThreads.NONE);
        }
        x.drop(0);
        x.find(0, 0, 0, 5);
        Check.due("the digit of 0", x.digit(0, 0), 0);
        Check.due("one beyond", x.digit(0, 1), WoolThreads.NONE);
        Check.nseBeyond(x, "digit of a story", story -> x.digit(story, 0));
        Check.nse(x, "digit of no story, and none", () -> x.digit(1, -1));
        // 15 to the power of 480 has 565 digits, of which the lowest is 5
        WoolThreads great = Check.with("common 0 20;common 1 20;common 2 20;alike 0 1;alike 1 2;take 15;", "");
        for (int i = 0; i < 8; i++) {
            great.find(0, 0, 0, 60);
        }
        Check.due("digits of the greatest", great.digits(0), 565);
        Check.due("its lowest", great.digit(0, 0), 5);
        Check.due("its highest", great.digit(0, 564), 3);
        Check.due("one beyond", great.digit(0, 565), WoolThreads.NONE);
    }

    private static void promise18() {
        Check.promise(18, "WEIGHED.");
        WoolThreads x = some();
        Check.due("weighed(0, 1)", x.weighed(0, 1), 1);
        Check.due("weighed(1, 0)", x.weighed(1, 0), -1);
        Check.due("weighed(1, 1)", x.weighed(1, 1), 0);
        Check.nseBeyond(x, "weighed of a story", story -> x.weighed(story, 0));
        Check.nseBeyond(x, "weighed of another", story -> x.weighed(0, story));
        WoolThreads none = new WoolThreads();
        Check.nse(none, "weighed of none", () -> none.weighed(0, 0));
    }

    private static void promise19() {
        Check.promise(19, "WORTH.");
        WoolThreads x = some();
        Check.due("worth(0, 1)", x.worth(0, 1), 1000000);
        Check.due("worth(1, 0)", x.worth(1, 0), 0);
        Check.due("worth(0, 0)", x.worth(0, 0), 1);
        Check.nseBeyond(x, "worth of a story", story -> x.worth(story, 0));
        Check.nseBeyond(x, "worth of another", story -> x.worth(0, story));
        WoolThreads none = new WoolThreads();
        Check.nse(none, "worth of none", () -> none.worth(0, 0));
    }

    private static void promise20() {
        Check.promise(20, "PART of a FIND.");
        WoolThreads x = some();
        int[] want = {16, 0, 1};
        for (int find = 0; find < 3; find++) {
            Check.due("part(1, 0, " + find + ")", x.part(1, 0, find), want[find]);
        }
        Check.nseBeyond(x, "part of a story", story -> x.part(story, 0, 0));
        Check.nseBeyond(x, "part of another", story -> x.part(0, story, 0));
        Check.bounds(x, "part of a find", IndexOutOfBoundsException.class, 0, 2, find -> x.part(0, 1, find));
        Check.nse(x, "part of no story and no find", () -> x.part(2, 0, 3));
        Check.nse(x, "part of no other and no find", () -> x.part(0, 2, -1));
        WoolThreads none = Check.with("", "");
        Check.index(none, "part of no finds", () -> none.part(0, 0, 0));
    }

    private static void promise21() {
        Check.promise(21, "How many EVENTS a STORY has.");
        int[] many = {0, 1, 19, 20};
        WoolThreads x = new WoolThreads();
        for (int events : many) {
            Check.story(x, "bare 0 at 1;".repeat(events));
        }
        for (int story = 0; story < 4; story++) {
            Check.due("events(" + story + ")", x.events(story), many[story]);
        }
        Check.nseBeyond(x, "events of a story", x::events);
    }

    private static void promise22() {
        Check.promise(22, "PART of an EVENT. IndexOutOfBoundsException: no such EVENT (so below).");
        WoolThreads x = some();
        x.drop(1);
        // sort 0 on 9 at 1: the wear of 0 and the touch bring its four threads there
        int[] want = {0, 1, 0, 1};
        for (int event = 0; event < 4; event++) {
            Check.due("counts(0, " + event + ")", x.counts(0, event), want[event]);
        }
        WoolThreads two = Check.with("", "bare 0 at 0;", "bare 0 at 0;");
        Check.nseBeyond(two, "counts of a story", story -> two.counts(story, 0));
        Check.bounds(x, "counts of an event", IndexOutOfBoundsException.class, 0, 3, event -> x.counts(0, event));
        Check.index(x, "counts of no events", () -> x.counts(1, 0));
        Check.nse(x, "counts of no story and no event", () -> x.counts(2, 4));
    }

    private static void promise23() {
        Check.promise(23, "The k-th EVENT that is NEEDED; NONE.");
        WoolThreads x = some();
        // two of sort 9 on 0 at 1: the wear of 9 and the touch are needed
        Check.due("needed(0, 0)", x.needed(0, 0), 1);
        Check.due("needed(0, 1)", x.needed(0, 1), 2);
        for (int k : new int[] {2, 3, 4, 20, -1, -2, Integer.MIN_VALUE, Integer.MAX_VALUE}) {
            Check.due("needed(0, " + k + ")", x.needed(0, k), WoolThreads.NONE);
        }
        Check.due("needed(1, 0)", x.needed(1, 0), WoolThreads.NONE);
        Check.nseBeyond(x, "needed of a story", story -> x.needed(story, 0));
        Check.nse(x, "needed of no story, and none", () -> x.needed(2, -1));
    }

    private static void promise24() {
        Check.promise(24, "BY WAY. IllegalArgumentException: also if the three PLACES are not three.");
        WoolThreads x = some();
        Check.due("from 0 to 5 by 9, at 98", x.byWay(0, 0, 5, 9, 0, 98), 0);
        Check.due("from 0 to 5 by 9, at 99", x.byWay(0, 0, 5, 9, 0, 99), 2);
        Check.due("from 5 to 0 by 9", x.byWay(0, 5, 0, 9, 9, 1), 5);
        Check.nseBeyond(x, "byWay of a story", story -> x.byWay(story, 4, 5, 6, 0, 0));
        Check.iaeBeyond(x, "byWay from a place", 9, place -> x.byWay(1, place, 5, 6, 9, 99));
        Check.iaeBeyond(x, "byWay to a place", 9, place -> x.byWay(1, 5, place, 6, 9, 99));
        Check.iaeBeyond(x, "byWay of a third", 9, place -> x.byWay(1, 5, 6, place, 9, 99));
        Check.iaeBeyond(x, "byWay of a sort", 9, sort -> x.byWay(1, 0, 9, 5, sort, 99));
        Check.iaeBeyond(x, "byWay at an hour", 99, hour -> x.byWay(1, 0, 9, 5, 9, hour));
        for (int same : new int[] {0, 1, 8, 9}) {
            Check.iae(x, "first is second", () -> x.byWay(0, same, same, 5, 0, 0));
            Check.iae(x, "first is third", () -> x.byWay(0, same, 5, same, 0, 0));
            Check.iae(x, "second is third", () -> x.byWay(0, 5, same, same, 0, 0));
            Check.iae(x, "all are one", () -> x.byWay(0, same, same, same, 0, 0));
        }
        Check.nse(x, "byWay of no story and one place", () -> x.byWay(2, 0, 0, 0, 10, 100));
    }

    private static void promise25() {
        Check.promise(25, "BENCH: WORTH of the STORY with it against the STORY. IllegalArgumentException: also if the PLACES are one.");
        WoolThreads x = some();
        Check.due("bench of nothing looked for", x.bench(0, 1, 2, 0), 1);
        Check.due("bench that makes a find less likely", x.bench(0, 0, 9, 1), 0);
        Check.due("bench of a story that is not likely", x.bench(1, 0, 9, 1), 0);
        Check.nseBeyond(x, "bench of a story", story -> x.bench(story, 0, 9, 0));
        Check.iaeBeyond(x, "bench of a place", 9, place -> x.bench(1, place, 5, 99));
        Check.iaeBeyond(x, "bench of another", 9, place -> x.bench(1, 5, place, 99));
        Check.iaeBeyond(x, "bench at an hour", 99, hour -> x.bench(1, 0, 9, hour));
        for (int same : new int[] {0, 1, 8, 9}) {
            Check.iae(x, "bench of " + same + " and " + same, () -> x.bench(0, same, same, 0));
        }
        Check.nse(x, "bench of no story and one place", () -> x.bench(2, 0, 0, 100));
    }
}
