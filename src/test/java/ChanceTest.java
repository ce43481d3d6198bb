import java.math.BigInteger;

/** Promises 15 to 20, 22, 23, 25, 33 and 34: how likely the finds are, and what that is worth. */
public final class ChanceTest {
    public static void main(String[] args) {
        noFinds();
        number();
        greatest();
        unlikely();
        weighed();
        worthEdges();
        said();
        parts();
        needed();
        bench();
        signs();
        signsOfOne();
        nothingIsLeft();
        wrong();
        Check.end("ChanceTest");
    }

    private static void dueNumber(WoolThreads x, int story, BigInteger want) {
        String text = want.toString();
        Check.due("digits(" + story + ")", x.digits(story), text.length());
        for (int k = 0; k < text.length(); k++) {
            Check.due("digit(" + story + ", " + k + ")", x.digit(story, k), text.charAt(text.length() - 1 - k) - '0');
        }
        for (int k : new int[] {-1, text.length(), text.length() + 1, 5000, Integer.MAX_VALUE, Integer.MIN_VALUE}) {
            Check.due("digit(" + story + ", " + k + ")", x.digit(story, k), WoolThreads.NONE);
        }
    }

    private static BigInteger chance(int pile, int many, int take) {
        BigInteger ways = BigInteger.ONE;
        for (int i = 0; i < many; i++) {
            ways = ways.multiply(BigInteger.valueOf(pile - i)).divide(BigInteger.valueOf(i + 1));
        }
        return ways.multiply(BigInteger.valueOf(take).pow(many)).multiply(BigInteger.valueOf(16 - take).pow(pile - many));
    }

    private static void noFinds() {
        WoolThreads x = Check.with("common 0 5;", "", "wear 0 0 at 0;");
        dueNumber(x, 0, BigInteger.ONE);
        Check.due("scale of no finds", x.scale(0), 0);
        Check.due("weighed of no finds", x.weighed(0, 1), 0);
        Check.due("worth of no finds", x.worth(0, 1), 1);
        Check.due("counts of no finds", x.counts(1, 0), 1);
        Check.due("needed of no finds", x.needed(1, 0), -1);
        Check.due("said of no finds", x.said(0, 1), 0);
    }

    private static void number() {
        WoolThreads x = Check.with("shed 0 0 10;shed 1 0 23;shed 0 1 7;take 5;common 1 2;hold 0 8;",
            "wear 0 0 at 1;touch 0 1 at 1;", "wear 0 1 at 1;touch 0 1 at 1;");
        x.find(1, 1, 0, 4);
        dueNumber(x, 0, chance(10, 4, 5));
        dueNumber(x, 1, chance(23, 4, 5));
        Check.due("scale(0)", x.scale(0), 10);
        Check.due("scale(1)", x.scale(1), 23);
        x.find(1, 1, 1, 2);
        dueNumber(x, 0, chance(10, 4, 5).multiply(chance(9, 2, 5)));
        dueNumber(x, 1, chance(23, 4, 5).multiply(chance(2, 2, 5)));
        x.find(1, 2, 0, 1);
        x.find(1, 0, 0, 0);
        dueNumber(x, 0, chance(10, 4, 5).multiply(chance(9, 2, 5)).multiply(chance(5, 1, 5)));
        dueNumber(x, 1, chance(23, 4, 5).multiply(chance(2, 2, 5)).multiply(chance(11, 1, 5)));
        Check.due("scale(0) of four", x.scale(0), 24);
        Check.due("scale(1) of four", x.scale(1), 36);
        x.find(9, 50, 5, 0);
        Check.due("nothing looked for where nothing lies", x.scale(0), 24);
    }

    private static void greatest() {
        for (int take = 1; take <= 15; take++) {
            for (int many : new int[] {0, 1, 29, 30, 31, 59, 60}) {
                WoolThreads x = Check.with("shed 0 0 200;take " + take + ";", "wear 0 0 at 0;touch 0 1 at 0;", "");
                for (int i = 0; i < 8; i++) {
                    x.find(1, 12 * i, 0, many);
                }
                Check.due("scale of the greatest", x.scale(0), 480);
                BigInteger want = chance(60, many, take).pow(8);
                String text = want.toString();
                Check.due("digits of the greatest", x.digits(0), text.length());
                for (int k = 0; k < text.length(); k += 37) {
                    Check.due("digit of the greatest", x.digit(0, k), text.charAt(text.length() - 1 - k) - '0');
                }
                Check.due("the highest digit", x.digit(0, text.length() - 1), text.charAt(0) - '0');
                Check.due("one behind it", x.digit(0, text.length()), -1);
                Check.due("worth against itself", x.worth(0, 0), 1);
                BigInteger all = BigInteger.TWO.pow(1920);
                long worth = many == 0 ? all.divide(want).min(BigInteger.valueOf(1000000)).longValue() : 0;
                Check.due("worth of nothing there", x.worth(1, 0), worth);
                Check.due("worth of all there", x.worth(0, 1), many == 0 ? 0 : 1000000);
            }
        }
    }

    private static void unlikely() {
        WoolThreads x = Check.with("shed 0 0 3;", "wear 0 0 at 0;touch 0 1 at 0;", "");
        x.find(1, 0, 0, 4);
        dueNumber(x, 0, BigInteger.ZERO);
        dueNumber(x, 1, BigInteger.ZERO);
        Check.due("scale", x.scale(0), 3);
        Check.due("weighed of both unlikely", x.weighed(0, 1), 0);
        Check.due("worth of both unlikely", x.worth(0, 1), 0);
        Check.due("worth of one unlikely", x.worth(0, 0), 0);
        Check.due("counts of one unlikely", x.counts(0, 0), 0);
        Check.due("needed of one unlikely", x.needed(0, 0), -1);
        x.find(1, 0, 0, 3);
        Check.due("scale goes on", x.scale(0), 6);
        dueNumber(x, 0, BigInteger.ZERO);
        x.drop(0);
        dueNumber(x, 0, BigInteger.valueOf(512));
    }

    private static void weighed() {
        WoolThreads x = Check.with("shed 0 0 4;shed 1 0 5;take 8;",
            "wear 0 0 at 0;touch 0 1 at 0;", "wear 0 1 at 0;touch 0 1 at 0;", "");
        x.find(1, 0, 0, 2);
        // 6 of 16 against 10 of 32, by halves
        Check.due("weighed(0, 1)", x.weighed(0, 1), 1);
        Check.due("weighed(1, 0)", x.weighed(1, 0), -1);
        Check.due("weighed(0, 0)", x.weighed(0, 0), 0);
        Check.due("weighed(2, 0)", x.weighed(2, 0), -1);
        Check.due("weighed(0, 2)", x.weighed(0, 2), 1);
        Check.due("worth(0, 1)", x.worth(0, 1), 1);
        Check.due("worth(1, 0)", x.worth(1, 0), 0);
        Check.due("worth(0, 2)", x.worth(0, 2), 1000000);
        Check.due("worth(2, 0)", x.worth(2, 0), 0);
        x.drop(0);
        // 3 of 4 and 3 of 5: 4 of 16 against 10 of 32
        x.find(1, 0, 0, 3);
        Check.due("weighed(0, 1) of three", x.weighed(0, 1), -1);
        WoolThreads even = Check.with("shed 0 0 3;shed 1 0 4;take 4;",
            "wear 0 0 at 0;touch 0 1 at 0;", "wear 0 1 at 0;touch 0 1 at 0;");
        // 1 of 3: 3 * 4 * 12 * 12 by 16^3; 1 of 4: 4 * 4 * 12^3 by 16^4: the same
        even.find(1, 0, 0, 1);
        Check.due("weighed alike", even.weighed(0, 1), 0);
        Check.due("worth alike", even.worth(0, 1), 1);
        Check.due("worth alike the other way", even.worth(1, 0), 1);
    }

    /** With take 8 a find of 0 halves with each thread, so worth is a power of two. */
    private static void worthEdges() {
        for (int threads = 0; threads <= 30; threads++) {
            WoolThreads x = Check.with("shed 0 0 " + threads + ";", "wear 0 0 at 0;touch 0 1 at 0;", "");
            x.find(1, 0, 0, 0);
            Check.due("worth of " + threads, x.worth(1, 0), Math.min(1L << threads, 1000000L));
            Check.due("worth the other way", x.worth(0, 1), threads == 0 ? 1 : 0);
        }
    }

    private static void said() {
        int[] threads = {0, 3, 4, 9, 10, 19, 20, 60};
        int[] want = {0, 0, 1, 1, 2, 2, 3, 3};
        for (int i = 0; i < threads.length; i++) {
            WoolThreads x = Check.with("shed 0 0 " + threads[i] + ";", "wear 0 0 at 0;touch 0 1 at 0;", "");
            x.find(1, 0, 0, 0);
            Check.due("said of worth 2 to " + threads[i], x.said(1, 0), want[i]);
            Check.due("said the other way", x.said(0, 1), 0);
        }
        dueLine(9, 0);
        dueLine(10, 1);
        dueLine(11, 1);
        dueLine(999, 1);
        dueLine(1000, 2);
        dueLine(1001, 2);
    }

    /** Looks for two piles and a find by which one is just so many times as likely as the other. */
    private static void dueLine(int worth, int said) {
        for (int take = 1; take <= 15; take++) {
            for (int many = 0; many <= 60; many++) {
                for (int one = many; one <= 60; one++) {
                    for (int two = many; two <= 60; two++) {
                        BigInteger above = chance(one, many, take).shiftLeft(4 * two);
                        BigInteger below = chance(two, many, take).shiftLeft(4 * one);
                        if (above.divide(below).equals(BigInteger.valueOf(worth))) {
                            WoolThreads x = Check.with("shed 0 0 " + one + ";shed 1 0 " + two + ";take " + take + ";",
                                "wear 0 0 at 0;touch 0 1 at 0;", "wear 0 1 at 0;touch 0 1 at 0;");
                            x.find(1, 0, 0, many);
                            Check.due("worth at the line " + worth, x.worth(0, 1), worth);
                            Check.due("said at the line " + worth, x.said(0, 1), said);
                            return;
                        }
                    }
                }
            }
        }
        Check.due("a case of worth " + worth, 0, 1);
    }

    private static void parts() {
        WoolThreads x = Check.with("shed 0 0 4;shed 0 1 6;",
            "wear 0 0 at 0;touch 0 1 at 0;wash 5 at 0;touch 0 2 at 1;", "touch 3 4 at 0;");
        x.find(1, 0, 0, 0);
        x.find(1, 0, 1, 0);
        x.find(2, 1, 0, 1);
        Check.due("part of find 0", x.part(1, 0, 0), 16);
        Check.due("part of find 1", x.part(1, 0, 1), 64);
        Check.due("part of find 2", x.part(1, 0, 2), 0);
        Check.due("part of find 2 the other way", x.part(0, 1, 2), 1000000);
        Check.due("part of find 0 the other way", x.part(0, 1, 0), 0);
        Check.due("part against itself", x.part(0, 0, 0), 1);
        Check.due("counts of wear", x.counts(0, 0), 1000000);
        Check.due("counts of touch 0 1", x.counts(0, 1), 0);
        Check.due("counts of wash", x.counts(0, 2), 1);
        Check.due("counts of touch 0 2", x.counts(0, 3), 1000000);
        Check.due("events stay", x.events(0), 4);
        x.drop(2);
        Check.due("counts of wear", x.counts(0, 0), 0);
        Check.due("counts of touch 0 2 by others", x.counts(0, 3), 1);
        WoolThreads cleaned = Check.with("shed 0 0 4;", "wear 0 0 at 0;touch 0 1 at 0;wash 1 at 0;");
        cleaned.find(1, 0, 0, 0);
        Check.due("counts of a wash", cleaned.counts(0, 2), 16);
    }

    private static void needed() {
        WoolThreads x = Check.with("shed 0 0 4;", "bare 0 at 0;wear 0 0 at 0;touch 0 1 at 0;touch 0 1 at 1;touch 0 2 at 2;bare 0 at 2;");
        x.find(1, 1, 0, 3);
        // either touch leaves 4 there
        Check.due("needed 0", x.needed(0, 0), 1);
        Check.due("needed 1", x.needed(0, 1), -1);
        x.find(1, 2, 0, 5);
        Check.due("needed 0 of five", x.needed(0, 0), 1);
        Check.due("needed 1 of five", x.needed(0, 1), 2);
        Check.due("needed 2 of five", x.needed(0, 2), 3);
        Check.due("needed 3 of five", x.needed(0, 3), -1);
        x.find(2, 9, 0, 4);
        Check.due("needed 3 of three finds", x.needed(0, 3), 4);
        Check.due("needed 4 of three finds", x.needed(0, 4), -1);
        WoolThreads first = Check.with("shed 0 0 4;", "wear 0 0 at 0;touch 0 1 at 0;");
        first.find(1, 0, 0, 1);
        Check.due("the first event is needed", first.needed(0, 0), 0);
        Check.due("the second, too", first.needed(0, 1), 1);
        Check.due("needed -1", x.needed(0, -1), -1);
        Check.due("needed of the greatest k", x.needed(0, Integer.MAX_VALUE), -1);
        Check.due("needed of the least k", x.needed(0, Integer.MIN_VALUE), -1);
    }

    private static void bench() {
        WoolThreads x = Check.with("shed 0 0 4;pass 8;", "wear 0 0 at 1;touch 0 1 at 2;bare 0 at 2;", "wear 0 0 at 1;");
        x.find(2, 5, 0, 2);
        Check.due("bench of 1 and 2 at 1", x.bench(0, 1, 2, 1), 0);
        Check.due("bench of 1 and 2 at 2", x.bench(0, 1, 2, 2), 1000000);
        Check.due("bench of 0 and 2 at 0", x.bench(0, 0, 2, 0), 0);
        Check.due("bench of 0 and 2 at 1", x.bench(0, 0, 2, 1), 1000000);
        Check.due("bench of 2 and 0 at 1", x.bench(0, 2, 0, 1), 1000000);
        Check.due("bench of 0 and 2 at 2, bare then", x.bench(0, 0, 2, 2), 0);
        Check.due("bench of 0 and 2 at 99, too late", x.bench(1, 0, 2, 99), 0);
        Check.due("the story stays", x.events(0), 3);
        x.drop(0);
        x.find(2, 5, 0, 0);
        Check.due("bench of none", x.bench(0, 3, 4, 2), 1);
        Check.due("bench of less", x.bench(0, 0, 2, 1), 0);
        x.drop(0);
        x.find(1, 5, 0, 0);
        // half of four go over to 2: four times as likely
        Check.due("bench of more", x.bench(0, 2, 1, 5), 4);
        WoolThreads later = Check.with("shed 0 0 4;pass 8;wash 16;", "wear 0 0 at 1;touch 1 2 at 3;");
        later.find(2, 3, 0, 2);
        Check.due("bench ahead of a touch", later.bench(0, 0, 1, 2), 1000000);
        Check.due("bench behind it", later.bench(0, 0, 1, 3), 0);
        WoolThreads full = Check.with("shed 0 0 4;", "wear 0 0 at 0;" + Check.times("bare 2 at 3;", 19));
        full.find(1, 9, 0, 4);
        Check.due("bench of a full story at 0", full.bench(0, 0, 1, 0), 1000000);
        Check.due("bench of a full story at 3", full.bench(0, 0, 1, 3), 1000000);
        Check.due("bench of a full story at 9", full.bench(0, 0, 1, 9), 1000000);
    }

    private static void signs() {
        WoolThreads x = Check.with("shed 0 0 4;shed 1 1 4;shed 2 0 0;alike 0 2;",
            "touch 0 1 at 1;wear 0 0 at 2;touch 0 1 at 2;wear 1 1 at 2;touch 1 0 at 3;touch 0 1 at 4;bare 0 at 5;touch 0 1 at 5;wear 0 2 at 5;touch 0 1 at 5;");
        int[] touches = {0, 2, 4, 5, 7, 9};
        dueSigns(x, touches, new int[] {0, 0, 0, 0, 0, 0});
        x.find(1, 3, 0, 0);
        x.find(1, 9, 2, 5);
        dueSigns(x, touches, new int[] {0, 0, 0, 0, 0, 0});
        x.find(1, 3, 0, 1);
        dueSigns(x, touches, new int[] {0, 1, 2, 0, 0, 0});
        x.find(0, 5, 1, 1);
        dueSigns(x, touches, new int[] {0, 1, 3, 2, 2, 2});
        x.find(1, 99, 0, 60);
        dueSigns(x, touches, new int[] {0, 1, 3, 3, 2, 2});
        for (int event : new int[] {1, 3, 6, 8}) {
            Check.due("signs of no touch", x.signs(0, event), 0);
        }
    }

    private static void signsOfOne() {
        WoolThreads x = Check.with("shed 3 0 1;", "wear 0 3 at 0;touch 0 1 at 0;touch 1 0 at 0;");
        x.find(1, 0, 0, 1);
        Check.due("signs of one thread", x.signs(0, 1), 1);
        Check.due("signs of one thread the other way", x.signs(0, 2), 2);
    }

    /** What was taken back, and the stories that were varied for a call ahead, must leave nothing. */
    private static void nothingIsLeft() {
        WoolThreads x = Check.with("shed 0 0 4;", "wear 0 0 at 0;touch 0 1 at 0;", "touch 0 1 at 0;");
        x.find(1, 0, 0, 2);
        x.bench(0, 2, 3, 50);
        Check.due("counts behind a bench", x.counts(0, 1), 1000000);
        Check.due("needed behind a bench", x.needed(0, 1), 1);
        Check.due("bench behind all", x.bench(1, 1, 2, 0), 0);
        x.find(1, 0, 0, 5);
        Check.due("not likely", x.needed(0, 0), -1);
        x.drop(1);
        Check.due("likely again", x.needed(0, 0), 0);
        Check.due("signs of the find", x.signs(0, 1), 1);
        x.drop(0);
        Check.due("signs of none", x.signs(0, 1), 0);
        Check.due("needed of none", x.needed(0, 0), -1);
        Check.due("digits of none", x.digits(0), 1);
        Check.due("digit of none", x.digit(0, 0), 1);
        Check.due("scale of none", x.scale(0), 0);
    }

    private static void dueSigns(WoolThreads x, int[] touches, int[] want) {
        for (int i = 0; i < touches.length; i++) {
            Check.due("signs(0, " + touches[i] + ") of " + x.count(2) + " finds", x.signs(0, touches[i]), want[i]);
        }
    }

    private static void wrong() {
        WoolThreads x = Check.with("shed 0 0 4;", "wear 0 0 at 0;touch 0 1 at 0;");
        x.find(1, 0, 0, 2);
        for (int no : new int[] {-1, 1, 4, Integer.MAX_VALUE, Integer.MIN_VALUE}) {
            Check.nse(x, "scale(" + no + ")", () -> x.scale(no));
            Check.nse(x, "digits(" + no + ")", () -> x.digits(no));
            Check.nse(x, "digit(" + no + ", 0)", () -> x.digit(no, 0));
            Check.nse(x, "digit(" + no + ", -1)", () -> x.digit(no, -1));
            Check.nse(x, "weighed(" + no + ", 0)", () -> x.weighed(no, 0));
            Check.nse(x, "weighed(0, " + no + ")", () -> x.weighed(0, no));
            Check.nse(x, "worth(" + no + ", 0)", () -> x.worth(no, 0));
            Check.nse(x, "worth(0, " + no + ")", () -> x.worth(0, no));
            Check.nse(x, "said(" + no + ", 0)", () -> x.said(no, 0));
            Check.nse(x, "said(0, " + no + ")", () -> x.said(0, no));
            Check.nse(x, "part(" + no + ", 0, 9)", () -> x.part(no, 0, 9));
            Check.nse(x, "part(0, " + no + ", 9)", () -> x.part(0, no, 9));
            Check.index(x, "part(0, 0, " + no + ")", () -> x.part(0, 0, no));
            Check.nse(x, "counts(" + no + ", 9)", () -> x.counts(no, 9));
            Check.nse(x, "needed(" + no + ", 0)", () -> x.needed(no, 0));
            Check.nse(x, "needed(" + no + ", -1)", () -> x.needed(no, -1));
            Check.nse(x, "signs(" + no + ", 9)", () -> x.signs(no, 9));
            Check.nse(x, "bench(" + no + ", 0, 0, 100)", () -> x.bench(no, 0, 0, 100));
        }
        for (int no : new int[] {-1, 2, 20, 21, Integer.MAX_VALUE, Integer.MIN_VALUE}) {
            Check.index(x, "counts(0, " + no + ")", () -> x.counts(0, no));
            Check.index(x, "signs(0, " + no + ")", () -> x.signs(0, no));
        }
        for (int no : new int[] {-1, 10, Integer.MAX_VALUE, Integer.MIN_VALUE}) {
            Check.iae(x, "bench(0, " + no + ", 1, 0)", () -> x.bench(0, no, 1, 0));
            Check.iae(x, "bench(0, 1, " + no + ", 0)", () -> x.bench(0, 1, no, 0));
        }
        for (int no : new int[] {-1, 100, Integer.MAX_VALUE, Integer.MIN_VALUE}) {
            Check.iae(x, "bench(0, 0, 1, " + no + ")", () -> x.bench(0, 0, 1, no));
        }
        Check.iae(x, "bench of one place", () -> x.bench(0, 3, 3, 0));
    }
}
