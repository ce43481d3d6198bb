import java.math.BigInteger;

/** The sentences of part 3: finds, how likely they are, what stories are worth, and stories that are varied. */
public final class WeighingTest {
    private static final String TOUCHED = "wear 0 0 at 0;touch 0 1 at 0;";
    private static final String OTHERWISE = "wear 0 1 at 0;touch 0 1 at 0;";

    public static void main(String[] args) {
        finds();
        findsAlike();
        likely();
        pilesAtTheirHours();
        number();
        weighed();
        worthOfHalves();
        worthAtItsBounds();
        worthOfUnlikely();
        partOfFind();
        partOfEvent();
        needed();
        byWay();
        byWayOfNoFourth();
        bench();
        benchOfFullStory();
        Check.end("WeighingTest");
    }

    private static BigInteger chance(int pile, int many, int take) {
        BigInteger ways = BigInteger.ONE;
        for (int i = 0; i < many; i++) {
            ways = ways.multiply(BigInteger.valueOf(Math.max(0, pile - i))).divide(BigInteger.valueOf(i + 1));
        }
        return ways.multiply(BigInteger.valueOf(take).pow(many)).multiply(BigInteger.valueOf(16 - take).pow(Math.max(0, pile - many)));
    }

    private static void dueNumber(String what, WoolThreads x, int story, BigInteger want) {
        StringBuilder got = new StringBuilder();
        for (int k = 0; k < x.digits(story); k++) {
            got.append(x.digit(story, k));
        }
        Check.dueText(what, got.reverse().toString(), want.toString());
        Check.due(what + ": just beyond its digits", x.digit(story, want.toString().length()), WoolThreads.NONE);
    }

    private static void finds() {
        Check.sentence("FINDS, numbered from 0 on, 8 at most: a PLACE, an HOUR, a SORT, how many of it");
        Check.sentence("the tape took (0 to 60; 0: looked for, and none).");
        WoolThreads x = new WoolThreads();
        for (int i = 0; i < 8; i++) {
            Check.due("find " + i, x.find(9 - i, 99 - i, i, i), i);
            Check.due("finds", x.count(2), i + 1);
        }
        Check.due("a ninth", x.find(0, 0, 0, 0), -1);
        Check.due("finds", x.count(2), 8);
        for (int i = 0; i < 8; i++) {
            Check.due("place of " + i, x.found(i, 0), 9 - i);
            Check.due("hour of " + i, x.found(i, 1), 99 - i);
            Check.due("sort of " + i, x.found(i, 2), i);
            Check.due("how many of " + i, x.found(i, 3), i);
        }
        WoolThreads many = new WoolThreads();
        for (int k : new int[] {0, 1, 59, 60}) {
            int find = many.find(0, 0, 0, k);
            Check.due("a find of " + k, many.found(find, 3), k);
        }
        Check.iae(many, "a find of -1", () -> many.find(0, 0, 0, -1));
        Check.iae(many, "a find of 61", () -> many.find(0, 0, 0, 61));
        WoolThreads none = Check.with("shed 0 0 4;", TOUCHED, "");
        none.find(1, 0, 0, 0);
        Check.due("none found speaks for nothing there", none.worth(1, 0), 16);
    }

    private static void findsAlike() {
        Check.sentence("(and those ALIKE)");
        WoolThreads x = Check.with("shed 0 0 2;shed 0 1 3;alike 0 1;", TOUCHED);
        x.find(1, 0, 0, 5);
        Check.due("scale of both sorts", x.scale(0), 5);
        dueNumber("five of both sorts", x, 0, chance(5, 5, 8));
        x.drop(0);
        x.find(1, 0, 1, 6);
        dueNumber("six of both sorts", x, 0, BigInteger.ZERO);
        WoolThreads apart = Check.with("shed 0 0 2;shed 0 1 3;", TOUCHED);
        apart.find(1, 0, 0, 3);
        dueNumber("three of the two", apart, 0, BigInteger.ZERO);
    }

    private static void likely() {
        Check.sentence("LIKELY is a FIND of k by a STORY: the number of ways to choose k of its PILE n, times take to the power of k, times 16 less take to the power of n - k; by 16 to the power of n (0, if k is above n).");
        for (int take : new int[] {1, 2, 8, 14, 15}) {
            for (int pile : new int[] {0, 1, 2, 59, 60}) {
                WoolThreads x = Check.with("shed 0 0 " + pile + ";take " + take + ";", TOUCHED);
                for (int many : new int[] {0, 1, pile - 1, pile, pile + 1, 60}) {
                    if (many >= 0 && many <= 60) {
                        x.find(1, 0, 0, many);
                        dueNumber(many + " of " + pile + " by " + take, x, 0, many > pile ? BigInteger.ZERO : chance(pile, many, take));
                        Check.due("by 16 to the power of " + pile, x.scale(0), pile);
                        x.drop(0);
                    }
                }
            }
        }
        // the ways to choose thirty of sixty are the most
        WoolThreads half = Check.with("shed 0 0 60;", TOUCHED);
        for (int many = 0; many <= 60; many++) {
            half.find(1, 0, 0, many);
            dueNumber(many + " of 60", half, 0, chance(60, many, 8));
            half.drop(0);
        }
    }

    /** Each find is of its own hour's pile: what is lost by then, is lost once. */
    private static void pilesAtTheirHours() {
        WoolThreads x = Check.with("shed 0 0 60;hold 0 8;", "wear 0 0 at 2;touch 0 1 at 2;touch 0 2 at 4;", "");
        int[] first = {0, 0, 60, 30, 15, 7, 3, 1, 0};
        int[] second = {0, 0, 0, 0, 60, 30, 15, 7, 3};
        for (int hour = first.length - 1; hour >= 0; hour--) {
            x.find(1, hour, 0, 0);
            x.find(2, hour, 0, 0);
            Check.due("both piles at " + hour, x.scale(0), first[hour] + second[hour]);
            x.drop(1);
            Check.due("the first pile at " + hour, x.scale(0), first[hour]);
            x.drop(0);
        }
        int all = 0;
        for (int hour : new int[] {7, 2, 99, 5, 0, 3, 6, 4}) {
            x.find(1, hour, 0, 0);
            all += hour < first.length ? first[hour] : 0;
            Check.due("piles of all finds so far", x.scale(0), all);
        }
        Check.due("the part of the find at 7", x.part(1, 0, 0), 2);
        Check.due("the part of the find at 99", x.part(1, 0, 2), 1);
        Check.due("the part of the find at 6", x.part(1, 0, 6), 8);
    }

    private static void number() {
        Check.sentence("NUMBER of a STORY: the product of what stands above of all FINDS; SCALE: all n together (by 16 to that power).");
        WoolThreads x = Check.with("shed 0 0 60;shed 0 1 7;take 15;", TOUCHED, "");
        dueNumber("the number of no finds", x, 0, BigInteger.ONE);
        Check.due("the scale of no finds", x.scale(0), 0);
        BigInteger want = BigInteger.ONE;
        for (int i = 1; i <= 8; i++) {
            x.find(1, 0, 0, 60 - i);
            want = want.multiply(chance(60, 60 - i, 15));
            dueNumber("the number of " + i + " finds", x, 0, want);
            Check.due("the scale of " + i + " finds", x.scale(0), 60 * i);
            dueNumber("the number by nothing", x, 1, BigInteger.ZERO);
            Check.due("the scale by nothing", x.scale(1), 0);
        }
        x.drop(0);
        x.find(1, 0, 1, 8);
        dueNumber("one find of eight is above its pile", x, 0, BigInteger.ZERO);
        Check.due("its pile counts all the same", x.scale(0), 7 * 60 + 7);
        WoolThreads greatest = Check.with("shed 0 0 60;take 15;", TOUCHED);
        for (int i = 0; i < 8; i++) {
            greatest.find(1, 99, 0, 60);
        }
        dueNumber("the greatest number of a kind", greatest, 0, BigInteger.valueOf(15).pow(480));
    }

    private static void weighed() {
        Check.sentence("WEIGHED are two STORIES by these: 1: the first makes the FINDS more likely, -1 less, 0 alike.");
        for (int one = 0; one <= 4; one++) {
            for (int two = 0; two <= 4; two++) {
                WoolThreads x = Check.with("shed 0 0 " + one + ";shed 1 0 " + two + ";", TOUCHED, OTHERWISE);
                Check.due("weighed without finds", x.weighed(0, 1), 0);
                x.find(1, 0, 0, 0);
                Check.due("weighed " + one + " and " + two + ", none found", x.weighed(0, 1), Integer.compare(two, one));
                x.drop(0);
                x.find(1, 0, 0, 4);
                int want = one == two || one < 4 && two < 4 ? 0 : one == 4 ? 1 : -1;
                Check.due("weighed " + one + " and " + two + ", four found", x.weighed(0, 1), want);
                Check.due("weighed the other way", x.weighed(1, 0), -want);
                Check.due("weighed with itself", x.weighed(0, 0), 0);
            }
        }
        // one of one or of two by halves: 8 by 16, and 128 by 256
        WoolThreads even = Check.with("shed 0 0 1;shed 1 0 2;", TOUCHED, OTHERWISE);
        even.find(1, 0, 0, 1);
        Check.due("weighed alike on two scales", even.weighed(0, 1), 0);
        Check.due("their scales", even.scale(0) * 10 + even.scale(1), 12);
    }

    private static void worthOfHalves() {
        Check.sentence("WORTH of one against another: the greatest m (0 to 1,000,000) such that it is m times as likely, or more");
        for (int threads = 0; threads <= 60; threads++) {
            WoolThreads x = Check.with("shed 0 0 " + threads + ";", TOUCHED, "");
            x.find(1, 0, 0, 0);
            Check.due("2 to the power of " + threads, x.worth(1, 0), threads < 20 ? 1 << threads : 1000000);
            Check.due("one by that", x.worth(0, 1), threads == 0 ? 1 : 0);
        }
        // 15 of 16 against 1: not once as likely; 16 by 15: once, and not twice
        WoolThreads near = Check.with("shed 0 0 1;take 1;", TOUCHED, "");
        near.find(1, 0, 0, 0);
        Check.due("a little less likely", near.worth(0, 1), 0);
        Check.due("a little more likely", near.worth(1, 0), 1);
    }

    /**
     * By halves one of n is n by 2 to the power of n - 1 as likely as one of one, and none of nothing 2 to the power of
     * n as likely as none of n: so story 0 is made just as many times as likely as story 1 as the product of the
     * factors, times 2 to the power of a shift, tells.
     */
    private static WoolThreads timesAsLikely(int shift, int... factors) {
        StringBuilder law = new StringBuilder();
        int halves = shift;
        for (int i = 0; i < factors.length; i++) {
            law.append("shed 0 ").append(i).append(' ').append(factors[i]).append(";shed 1 ").append(i).append(" 1;");
            halves += factors[i] - 1;
        }
        law.append("shed 1 8 ").append(Math.min(60, halves)).append(";shed 1 9 ").append(Math.max(0, halves - 60)).append(';');
        WoolThreads x = Check.with(law.toString(), TOUCHED, OTHERWISE);
        for (int i = 0; i < factors.length; i++) {
            x.find(1, 0, i, 1);
        }
        x.find(1, 0, 8, 0);
        x.find(1, 0, 9, 0);
        return x;
    }

    private static void dueWorth(WoolThreads x, String what, int worth) {
        Check.due("worth of " + what, x.worth(0, 1), worth);
        Check.due("said of " + what, x.said(0, 1), worth < 10 ? 0 : worth < 1000 ? 1 : worth < 1000000 ? 2 : 3);
        Check.due("weighed of " + what, x.weighed(0, 1), 1);
        Check.due("worth of it the other way", x.worth(1, 0), 0);
    }

    private static void worthAtItsBounds() {
        dueWorth(timesAsLikely(-19, 25, 31, 33, 41), "just below 2", 1);
        dueWorth(timesAsLikely(1, 1), "2", 2);
        dueWorth(timesAsLikely(-19, 5, 25, 31, 33, 41), "just below 10", 9);
        dueWorth(timesAsLikely(1, 5), "10", 10);
        dueWorth(timesAsLikely(-19, 11, 17, 23, 23, 53), "just above 10", 10);
        dueWorth(timesAsLikely(-16, 11, 17, 17, 19, 31, 35), "just below 1,000", 999);
        dueWorth(timesAsLikely(0, 27, 37), "999", 999);
        dueWorth(timesAsLikely(3, 5, 5, 5), "1,000", 1000);
        dueWorth(timesAsLikely(-14, 3, 11, 15, 17, 33, 59), "just above 1,000", 1000);
        dueWorth(timesAsLikely(-1, 5, 11, 23, 31, 51), "999,982 and a half", 999982);
        dueWorth(timesAsLikely(0, 7, 11, 13, 27, 37), "999,999", 999999);
        dueWorth(timesAsLikely(6, 5, 5, 5, 5, 5, 5), "1,000,000", 1000000);
        dueWorth(timesAsLikely(-6, 15, 15, 15, 21, 21, 43), "just above 1,000,000", 1000000);
        dueWorth(timesAsLikely(1, 7, 11, 13, 27, 37), "1,999,998", 1000000);
        WoolThreads once = timesAsLikely(0, 1);
        Check.due("worth of alike ones", once.worth(0, 1), 1);
        Check.due("worth of alike ones the other way", once.worth(1, 0), 1);
        WoolThreads below = timesAsLikely(-20, 25, 31, 33, 41);
        Check.due("worth of a little below once", below.worth(0, 1), 0);
        Check.due("worth of a little above once", below.worth(1, 0), 1);
    }

    private static void worthOfUnlikely() {
        Check.sentence("(1,000,000, if the other one is not likely at all, and the first is; 0, if both are not).");
        WoolThreads x = Check.with("shed 0 0 60;shed 1 0 59;take 1;", TOUCHED, OTHERWISE, "");
        for (int i = 0; i < 8; i++) {
            x.find(1, 0, 0, 60);
        }
        // 16 to the power of -480 is still likely
        Check.due("the first is likely", x.worth(0, 1), 1000000);
        Check.due("the other is likely", x.worth(1, 0), 0);
        Check.due("both are not", x.worth(1, 2), 0);
        Check.due("one is not, against itself", x.worth(1, 1), 0);
        Check.due("one is, against itself", x.worth(0, 0), 1);
    }

    private static void partOfFind() {
        Check.sentence("PART of a FIND, of an EVENT: WORTH of a STORY with just that FIND;");
        WoolThreads x = Check.with("shed 0 0 3;shed 0 1 5;shed 1 2 7;", TOUCHED, OTHERWISE);
        x.find(1, 0, 0, 0);
        x.find(1, 0, 1, 1);
        x.find(1, 0, 2, 0);
        x.find(9, 99, 9, 0);
        int[] first = {0, 1000000, 128, 1};
        int[] second = {8, 0, 0, 1};
        for (int find = 0; find < 4; find++) {
            Check.due("part(0, 1, " + find + ")", x.part(0, 1, find), first[find]);
            Check.due("part(1, 0, " + find + ")", x.part(1, 0, find), second[find]);
            Check.due("part(0, 0, " + find + ")", x.part(0, 0, find), 1);
        }
        Check.due("a find that is not likely, against itself", x.part(1, 1, 1), 0);
        Check.due("all finds", x.worth(0, 1), 1000000);
        Check.index(x, "part(0, 1, 4)", () -> x.part(0, 1, 4));
        Check.index(x, "part(0, 1, -1)", () -> x.part(0, 1, -1));
        for (int i = 4; i < 8; i++) {
            x.find(1, 0, 2, 0);
        }
        Check.due("the last of eight", x.part(0, 1, 7), 128);
        Check.index(x, "part(0, 1, 8)", () -> x.part(0, 1, 8));
    }

    private static void partOfEvent() {
        Check.sentence("of a STORY against itself without that EVENT.");
        WoolThreads x = Check.with("shed 0 0 4;wash 8;", "bare 0 at 0;wear 0 0 at 0;touch 0 1 at 1;touch 0 1 at 2;shake 1 8 at 3;wash 1 at 3;bare 5 at 99;", "");
        x.find(1, 3, 0, 0);
        // 8 lie there, 4 and then 2 are left: without one touch 1, without the shake or the wash 4
        int[] want = {1, 0, 0, 0, 4, 4, 1};
        for (int event = 0; event < 7; event++) {
            Check.due("counts(0, " + event + ")", x.counts(0, event), want[event]);
        }
        x.drop(0);
        x.find(1, 3, 0, 2);
        int[] needed = {1, 1000000, 1000000, 1000000, 0, 0, 1};
        for (int event = 0; event < 7; event++) {
            Check.due("counts(0, " + event + ") of two", x.counts(0, event), needed[event]);
        }
        Check.index(x, "counts(0, 7)", () -> x.counts(0, 7));
        Check.index(x, "counts(0, -1)", () -> x.counts(0, -1));
        Check.index(x, "counts(1, 0) of no events", () -> x.counts(1, 0));
        WoolThreads full = Check.with("shed 0 0 4;", "wear 0 0 at 0;" + "bare 1 at 0;".repeat(18) + "touch 0 1 at 0;");
        full.find(1, 0, 0, 4);
        Check.due("the first of twenty", full.counts(0, 0), 1000000);
        Check.due("the 19th of twenty", full.counts(0, 18), 1);
        Check.due("the last of twenty", full.counts(0, 19), 1000000);
        Check.index(full, "counts(0, 20)", () -> full.counts(0, 20));
    }

    private static void needed() {
        Check.sentence("NEEDED is an EVENT, if a STORY that is likely is not without it.");
        String story = "bare 1 at 0;wear 0 0 at 0;touch 0 1 at 0;shake 1 8 at 0;touch 0 2 at 0;";
        int[][] want = {{-1, -1}, {1, 2, -1}, {1, 2, -1}, {-1, -1}};
        for (int many = 0; many < 4; many++) {
            WoolThreads x = Check.with("shed 0 0 4;", story, "");
            x.find(1, 0, 0, many);
            for (int k = 0; k < want[many].length; k++) {
                Check.due("needed(0, " + k + ") for " + many, x.needed(0, k), want[many][k]);
            }
            Check.due("needed of no events for " + many, x.needed(1, 0), -1);
        }
        WoolThreads none = Check.with("shed 0 0 4;", story);
        Check.due("needed without finds", none.needed(0, 0), -1);
        WoolThreads full = Check.with("shed 0 0 3;", "wear 0 0 at 0;" + "touch 0 1 at 0;".repeat(19));
        full.find(1, 0, 0, 57);
        for (int k = 0; k < 20; k++) {
            Check.due("needed(0, " + k + ") of twenty", full.needed(0, k), k);
        }
        Check.due("needed(0, 20) of twenty", full.needed(0, 20), -1);
        for (int k : Check.FAR) {
            Check.due("needed(0, " + k + ")", full.needed(0, k), -1);
        }
        full.drop(0);
        full.find(1, 0, 0, 58);
        Check.due("not likely, so none is needed", full.needed(0, 0), -1);
        full.drop(0);
        full.find(1, 0, 0, 54);
        Check.due("one touch may be left out: the wear alone", full.needed(0, 0), 0);
        Check.due("and nothing else", full.needed(0, 1), -1);
    }

    private static void byWay() {
        Check.sentence("BY WAY of a third PLACE, from a first to a second one: LIES of a SORT on the second at an HOUR, by the STORY with those touches alone that are of the third and the first, or of the third and the second (all other EVENTS stay).");
        String law = "shed 0 0 16;shed 1 0 1;pass 8;";
        String[] touches = {"touch 0 1", "touch 1 0", "touch 0 2", "touch 2 0", "touch 1 2", "touch 2 1", "touch 3 1", "touch 1 3", "touch 3 4"};
        // all wear what sheds one thread: a touch stays if it is of 2 and 0, or of 2 and 1; only the last reaches 1
        int[] onSecond = {0, 0, 0, 0, 1, 1, 0, 0, 0};
        for (int i = 0; i < touches.length; i++) {
            String wears = "wear 0 1 at 0;wear 1 1 at 0;wear 2 1 at 0;wear 3 1 at 0;";
            WoolThreads x = Check.with(law, wears + touches[i] + " at 0;");
            Check.due("byWay with " + touches[i], x.byWay(0, 0, 1, 2, 0, 0), onSecond[i]);
            Check.due("byWay back with " + touches[i], x.byWay(0, 1, 0, 2, 0, 0), i == 2 || i == 3 ? 1 : 0);
        }
        String others = "wear 0 0 at 0;touch 0 2 at 0;touch 2 1 at 1;shake 1 8 at 2;wash 1 at 3;";
        WoolThreads x = Check.with(law, others + "touch 0 1 at 4;");
        int[] want = {0, 8, 4, 0, 0};
        for (int hour = 0; hour < want.length; hour++) {
            Check.due("byWay at " + hour, x.byWay(0, 0, 1, 2, 0, hour), want[hour]);
        }
        Check.due("byWay at 99", x.byWay(0, 0, 1, 2, 0, 99), 0);
        Check.due("byWay of another sort", x.byWay(0, 0, 1, 2, 9, 1), 0);
        Check.due("LIES by all touches", x.lies(0, 1, 0, 4), 16);
        Check.due("events stay", x.events(0), 6);
        WoolThreads none = Check.with(law, "");
        Check.due("byWay of no events", none.byWay(0, 0, 1, 2, 0, 99), 0);
        WoolThreads full = Check.with(law, "wear 0 0 at 0;" + "touch 0 1 at 0;".repeat(17) + "touch 0 2 at 0;touch 1 2 at 0;");
        Check.due("byWay of twenty events", full.byWay(0, 0, 1, 2, 0, 0), 8);
    }

    /** A touch of the third and a fourth, or of two that are not the third, is left out whichever is told first. */
    private static void byWayOfNoFourth() {
        String wears = "wear 3 0 at 0;wear 0 1 at 0;";
        String[] touches = {"touch 3 2", "touch 2 3", "touch 3 1", "touch 1 3", "touch 0 1", "touch 1 0", "touch 3 0", "touch 0 3", "touch 0 2", "touch 2 0"};
        int[] reached = {0, 0, 0, 0, 0, 0, 0, 0, 1, 1};
        for (String last : new String[] {"touch 2 1", "touch 1 2"}) {
            for (int i = 0; i < touches.length; i++) {
                WoolThreads x = Check.with("shed 0 0 16;shed 1 0 2;pass 8;", wears + touches[i] + " at 0;" + last + " at 0;", "");
                Check.due("byWay with " + touches[i] + " and " + last, x.byWay(0, 0, 1, 2, 0, 0), reached[i]);
                // the row of events that was varied leaves nothing for another story
                Check.due("byWay of no events behind it", x.byWay(1, 0, 1, 2, 0, 0), 0);
            }
        }
        WoolThreads x = Check.with("shed 0 0 16;", "wear 0 0 at 0;touch 0 1 at 0;", "touch 0 1 at 0;touch 2 1 at 0;");
        x.counts(0, 1);
        Check.due("byWay behind counts", x.byWay(1, 2, 1, 0, 0, 0), 0);
        x.bench(0, 0, 1, 0);
        Check.due("byWay behind a bench", x.byWay(1, 2, 1, 0, 0, 0), 0);
        Check.due("byWay of it", x.byWay(0, 2, 1, 0, 0, 0), 16);
    }

    private static void bench() {
        Check.sentence("BENCH: the STORY with one touch more of two PLACES, at an HOUR, behind all its EVENTS of that HOUR.");
        WoolThreads x = Check.with("shed 0 0 4;", "wear 0 0 at 5;bare 0 at 7;wear 0 0 at 9;", "");
        x.find(1, 99, 0, 1);
        int[] hours = {0, 4, 5, 6, 7, 8, 9, 98, 99};
        int[] want = {0, 0, 1000000, 1000000, 0, 0, 1000000, 1000000, 1000000};
        for (int i = 0; i < hours.length; i++) {
            Check.due("bench at " + hours[i], x.bench(0, 0, 1, hours[i]), want[i]);
            Check.due("bench of the other first at " + hours[i], x.bench(0, 1, 0, hours[i]), want[i]);
            Check.due("bench of others at " + hours[i], x.bench(0, 2, 3, hours[i]), 0);
            Check.due("bench of no events at " + hours[i], x.bench(1, 0, 1, hours[i]), 0);
        }
        Check.due("the story stays", x.events(0), 3);
        Check.due("what lies by it stays", x.lies(0, 1, 0, 99), 0);
        x.drop(0);
        Check.due("bench without finds", x.bench(0, 0, 1, 5), 1);
        x.find(1, 5, 0, 0);
        Check.due("bench of less", x.bench(0, 0, 1, 5), 0);
        Check.due("bench behind the find's hour", x.bench(0, 0, 1, 6), 1);
        // ahead of the events of a later hour
        WoolThreads later = Check.with("shed 0 0 4;", "wear 0 0 at 1;touch 0 1 at 1;shake 1 0 at 3;");
        later.find(1, 3, 0, 4);
        Check.due("bench ahead of a shake", later.bench(0, 0, 1, 2), 0);
        Check.due("bench behind a shake of that hour", later.bench(0, 0, 1, 3), 1000000);
    }

    private static void benchOfFullStory() {
        String[] stories = {"wear 0 0 at 0;" + "bare 2 at 5;".repeat(19), "wear 0 0 at 0;" + "touch 0 1 at 5;".repeat(19)};
        WoolThreads x = Check.with("shed 0 0 3;", stories);
        x.find(1, 9, 0, 3);
        for (int hour : new int[] {0, 4, 5, 6, 9}) {
            Check.due("bench of twenty events at " + hour, x.bench(0, 0, 1, hour), 1000000);
        }
        Check.due("bench too late", x.bench(0, 0, 1, 10), 0);
        x.drop(0);
        x.find(1, 9, 0, 60);
        Check.due("57 lie there", x.lies(1, 1, 0, 9), 57);
        Check.due("a 21st event brings 60", x.bench(1, 0, 1, 9), 1000000);
        Check.due("the story stays", x.events(1), 20);
        Check.due("what lies there stays", x.lies(1, 1, 0, 9), 57);
    }
}
