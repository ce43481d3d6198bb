/** Promises 26 to 32: how many there were at first, seats, shops, and what to look at next. */
public final class CountTest {
    public static void main(String[] args) {
        after();
        afterByTrying();
        seats();
        shops();
        next();
        wrong();
        Check.end("CountTest");
    }

    private static void after() {
        WoolThreads x = Check.with("hold 0 8;hold 1 1;hold 2 0;hold 3 15;hold 9 16;");
        for (int left : new int[] {0, 1, 9999}) {
            for (int hours : new int[] {0, 1, 60}) {
                Check.due("after of all held", x.after(9, left, hours, false), left);
                Check.due("after of all held, most", x.after(9, left, hours, true), left);
            }
            Check.due("after no hours", x.after(1, left, 0, false), left);
            Check.due("after no hours, most", x.after(1, left, 0, true), left);
        }
        Check.due("half, 5 left", x.after(0, 5, 1, false), 10);
        Check.due("half, 5 left, most", x.after(0, 5, 1, true), 11);
        Check.due("half, 5 left of two hours", x.after(0, 5, 2, false), 20);
        Check.due("half, 5 left of two hours, most", x.after(0, 5, 2, true), 23);
        Check.due("half, 0 left of 60", x.after(0, 0, 60, true), 99999);
        Check.due("half, 0 left of 60, least", x.after(0, 0, 60, false), 0);
        Check.due("half, 1 left of 16 hours", x.after(0, 1, 16, false), 65536);
        Check.due("half, 1 left of 16 hours, most", x.after(0, 1, 16, true), 99999);
        Check.due("half, 1 left of 17 hours", x.after(0, 1, 17, false), -1);
        Check.due("half, 1 left of 17 hours, most", x.after(0, 1, 17, true), -1);
        Check.due("a sixteenth, 6249 left", x.after(1, 6249, 1, false), 99984);
        Check.due("a sixteenth, 6249 left, most", x.after(1, 6249, 1, true), 99999);
        Check.due("a sixteenth, 6250 left", x.after(1, 6250, 1, false), -1);
        Check.due("a sixteenth, 6250 left, most", x.after(1, 6250, 1, true), -1);
        Check.due("fifteen, 14 left", x.after(3, 14, 1, false), 15);
        Check.due("fifteen, 15 left", x.after(3, 15, 1, false), 16);
        Check.due("fifteen, 15 left, most", x.after(3, 15, 1, true), 17);
    }

    /** All numbers are tried for some: what is left falls by steps, and some numbers are never left. */
    private static void afterByTrying() {
        for (int hold = 1; hold <= 16; hold += 3) {
            WoolThreads x = Check.with("hold 4 " + hold + ";");
            for (int hours : new int[] {1, 2, 7, 60}) {
                int[] least = new int[10000];
                int[] most = new int[10000];
                java.util.Arrays.fill(least, -1);
                java.util.Arrays.fill(most, -1);
                for (int number = 0; number <= 99999; number++) {
                    int left = number;
                    for (int h = 0; h < hours; h++) {
                        left = left * hold / 16;
                    }
                    if (left < 10000) {
                        least[left] = least[left] < 0 ? number : least[left];
                        most[left] = number;
                    }
                }
                for (int left = 0; left < 10000; left += left < 40 ? 1 : 333) {
                    Check.due("least by trying", x.after(4, left, hours, false), least[left]);
                    Check.due("most by trying", x.after(4, left, hours, true), most[left]);
                }
            }
        }
    }

    private static void seats() {
        WoolThreads x = new WoolThreads();
        Check.due("together of no seats", x.together(0, 1), 0);
        Check.due("seat 1", x.seat(0b11), 1);
        Check.due("seat 2", x.seat(0b11), 2);
        Check.due("seat 3", x.seat(0b10), 3);
        Check.due("seat 4", x.seat(0b1000000000), 4);
        Check.due("seat 5", x.seat(1023), 5);
        Check.due("seat 6", x.seat(0), 6);
        int[] share = {3, 4, 1, 1, 1, 1, 1, 1, 1, 2};
        for (int sort = 0; sort < 10; sort++) {
            Check.due("share(" + sort + ")", x.share(sort), share[sort]);
        }
        Check.due("together(0, 1)", x.together(0, 1), 3 * 6 - 3 * 4);
        Check.due("together(1, 0)", x.together(1, 0), 3 * 6 - 3 * 4);
        Check.due("together(1, 9)", x.together(1, 9), 6 - 4 * 2);
        Check.due("together(1, 1)", x.together(1, 1), 4 * 6 - 4 * 4);
        for (int i = 7; i <= 40; i++) {
            Check.due("seat " + i, x.seat(i), i);
        }
        Check.due("seat 41", x.seat(1), -1);
        Check.due("count(3)", x.count(3), 40);
        for (int no : new int[] {-1, 1024, Integer.MAX_VALUE, Integer.MIN_VALUE}) {
            Check.iae(x, "seat(" + no + ")", () -> x.seat(no));
        }
    }

    private static void shops() {
        WoolThreads x = new WoolThreads();
        Check.due("shop 1", x.shop(3, 1, 3), 1);
        Check.due("shop 2", x.shop(3, 1000000, 1000000), 2);
        Check.due("shop 3", x.shop(4, 0, 1), 3);
        Check.due("rare(3, 0)", x.rare(3, 0), 1000001000 / 1000003);
        Check.due("rare(3, 1)", x.rare(3, 1), 333);
        Check.due("rare(3, 2)", x.rare(3, 2), 1000);
        WoolThreads falling = new WoolThreads();
        falling.shop(0, 9, 10);
        falling.shop(0, 5, 10);
        falling.shop(0, 7, 10);
        Check.due("rare(0, 0) of three", falling.rare(0, 0), 700);
        Check.due("rare(0, 1) of three", falling.rare(0, 1), 500);
        Check.due("rare(0, 2) of three", falling.rare(0, 2), 900);
        Check.due("rare(4, 0)", x.rare(4, 0), 0);
        Check.due("rare(4, 1)", x.rare(4, 1), 0);
        Check.due("rare(4, 2)", x.rare(4, 2), 0);
        for (int what = 0; what < 3; what++) {
            Check.due("rare(5, " + what + ")", x.rare(5, what), -1);
        }
        for (int i = 4; i <= 12; i++) {
            Check.due("shop " + i, x.shop(5, 999999, 1000000), i);
        }
        Check.due("shop 13", x.shop(5, 1, 1), -1);
        Check.due("count(4)", x.count(4), 12);
        Check.due("rare(5, 0) of many", x.rare(5, 0), 999);
        for (int no : new int[] {-1, 10, Integer.MAX_VALUE, Integer.MIN_VALUE}) {
            Check.iae(x, "shop of sort " + no, () -> x.shop(no, 1, 2));
            Check.iae(x, "rare of sort " + no, () -> x.rare(no, 0));
        }
        for (int no : new int[] {-1, 3, Integer.MAX_VALUE, Integer.MIN_VALUE}) {
            Check.iae(x, "rare of what " + no, () -> x.rare(3, no));
        }
        Check.iae(x, "sold more than all", () -> x.shop(1, 3, 2));
        Check.iae(x, "sold below 0", () -> x.shop(1, -1, 2));
        Check.iae(x, "all 0", () -> x.shop(1, 0, 0));
        Check.iae(x, "all below 0", () -> x.shop(1, -2, -1));
        Check.iae(x, "all above a million", () -> x.shop(1, 1, 1000001));
        Check.iae(x, "all the most", () -> x.shop(1, 1, Integer.MAX_VALUE));
    }

    private static void next() {
        WoolThreads x = Check.with("shed 0 1 10;shed 0 4 12;shed 0 7 12;shed 1 4 12;common 3 5;alike 2 4;",
            "wear 0 0 at 3;touch 0 1 at 3;touch 0 8 at 4;", "wear 0 1 at 3;touch 0 2 at 3;");
        Check.due("next at 2", x.next(0, 1, 2), -1);
        Check.due("next against itself", x.next(0, 0, 5), -1);
        // 2 is alike with 4, and comes first; 7 differs as much
        Check.due("next at 3", x.next(0, 1, 3), 1212);
        Check.due("next the other way round", x.next(1, 0, 3), 1212);
        x.find(1, 4, 2, 0);
        Check.due("looked at in another hour", x.next(0, 1, 3), 1212);
        x.find(1, 3, 4, 0);
        Check.due("looked at one alike", x.next(0, 1, 3), 1217);
        x.find(1, 3, 7, 9);
        Check.due("looked at 7", x.next(0, 1, 3), 1222);
        x.find(2, 3, 2, 9);
        Check.due("looked at 2", x.next(0, 1, 3), 1011);
        x.find(1, 3, 1, 9);
        Check.due("looked at all that differ", x.next(0, 1, 3), -1);
        Check.due("an hour later", x.next(0, 1, 4), 1217);
        WoolThreads one = Check.with("shed 0 0 1;", "wear 1 0 at 0;touch 1 0 at 0;", "");
        Check.due("a difference of one on place 0", one.next(0, 1, 0), 100);
        WoolThreads full = Check.with("shed 0 9 200;common 9 20;", "wear 0 0 at 0;touch 0 9 at 0;", "");
        Check.due("piles have 60 at most", full.next(0, 1, 99), 4099);
        WoolThreads most = Check.with("shed 0 9 200;", "wear 0 0 at 0;touch 0 9 at 0;", "");
        Check.due("the greatest difference", most.next(1, 0, 99), 6099);
    }

    private static void wrong() {
        WoolThreads x = Check.with("hold 2 0;", "", "");
        for (int no : new int[] {-1, 2, 4, Integer.MAX_VALUE, Integer.MIN_VALUE}) {
            Check.nse(x, "next(" + no + ", 0, 100)", () -> x.next(no, 0, 100));
            Check.nse(x, "next(0, " + no + ", 100)", () -> x.next(0, no, 100));
        }
        for (int no : new int[] {-1, 100, Integer.MAX_VALUE, Integer.MIN_VALUE}) {
            Check.iae(x, "next(0, 1, " + no + ")", () -> x.next(0, 1, no));
        }
        for (int no : new int[] {-1, 10, Integer.MAX_VALUE, Integer.MIN_VALUE}) {
            Check.iae(x, "after of sort " + no, () -> x.after(no, 0, 0, true));
            Check.iae(x, "share(" + no + ")", () -> x.share(no));
            Check.iae(x, "together(" + no + ", 0)", () -> x.together(no, 0));
            Check.iae(x, "together(0, " + no + ")", () -> x.together(0, no));
        }
        for (int no : new int[] {-1, 10000, Integer.MAX_VALUE, Integer.MIN_VALUE}) {
            Check.iae(x, "after of left " + no, () -> x.after(0, no, 0, true));
        }
        for (int no : new int[] {-1, 61, Integer.MAX_VALUE, Integer.MIN_VALUE}) {
            Check.iae(x, "after of hours " + no, () -> x.after(0, 0, no, false));
        }
        Check.iae(x, "after of hold 0", () -> x.after(2, 0, 0, false));
        Check.iae(x, "after of hold 0, most", () -> x.after(2, 0, 1, true));
    }
}
