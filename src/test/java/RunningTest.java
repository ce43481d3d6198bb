/** The sentences of part 2: how a story is run, what lies, what is alike, and piles. */
public final class RunningTest {
    public static void main(String[] args) {
        fromHourZero();
        endOfHour();
        order();
        wearAndBare();
        touch();
        touchPasses();
        washAndShake();
        lies();
        most();
        alike();
        piles();
        Check.end("RunningTest");
    }

    private static void due(WoolThreads x, int place, int sort, int hour, int want) {
        Check.due("lies(0, " + place + ", " + sort + ", " + hour + ")", x.lies(0, place, sort, hour), want);
    }

    private static void fromHourZero() {
        Check.sentence("A STORY is run from HOUR 0 on, nobody wearing anything, nothing lying anywhere.");
        WoolThreads x = Check.with("shed 0 0 200;shed 7 9 200;common 0 5;pass 8;", "touch 0 1 at 0;", "");
        for (int place = 0; place < 10; place++) {
            for (int hour : new int[] {0, 1, 98, 99}) {
                Check.due("nobody wears anything", x.wears(0, place, hour), WoolThreads.NONE);
                Check.due("nobody wears anything by no events", x.wears(1, place, hour), WoolThreads.NONE);
                for (int sort = 0; sort < 10; sort++) {
                    Check.due("nothing lies", x.lies(0, place, sort, hour), 0);
                    Check.due("nothing lies by no events", x.lies(1, place, sort, hour), 0);
                }
            }
        }
        WoolThreads first = Check.with("shed 0 0 3;", "wear 0 0 at 0;touch 0 1 at 0;", "touch 0 1 at 0;");
        due(first, 1, 0, 0, 3);
        Check.due("a story ahead leaves nothing on", first.lies(1, 1, 0, 0), 0);
        due(first, 1, 0, 0, 3);
    }

    private static void endOfHour() {
        Check.sentence("At the end of each HOUR of all threads of each SORT on each PLACE as many stay as hold tells (N times how many, by 16, cut).");
        for (int hold = 0; hold <= 16; hold++) {
            WoolThreads x = Check.with("shed 0 3 200;shed 0 4 1;hold 3 " + hold + ";hold 4 " + hold + ";", "wear 0 0 at 2;touch 0 1 at 2;touch 0 9 at 3;");
            int many = 200;
            for (int hour = 2; hour <= 99; hour++) {
                due(x, 1, 3, hour, many);
                if (hour < 99) {
                    due(x, 9, 3, hour + 1, many);
                }
                due(x, 1, 4, hour, hour == 2 || hold == 16 ? 1 : 0);
                many = many * hold / 16;
            }
        }
        // 17 by 15 sixteenths is 15.9, and 15 by it 14.06: each hour is cut
        WoolThreads cut = Check.with("shed 0 0 17;hold 0 15;", "wear 0 0 at 0;touch 0 1 at 0;");
        int[] left = {17, 15, 14, 13, 12, 11, 10, 9, 8, 7, 6, 5, 4, 3, 2, 1, 0, 0};
        for (int hour = 0; hour < left.length; hour++) {
            due(cut, 1, 0, hour, left[hour]);
        }
        WoolThreads apart = Check.with("shed 0 0 16;shed 0 1 16;hold 0 8;", "wear 0 0 at 0;touch 0 1 at 0;");
        due(apart, 1, 0, 1, 8);
        due(apart, 1, 1, 1, 16);
    }

    private static void order() {
        Check.sentence("EVENTS of an HOUR come in their order.");
        String law = "shed 0 0 16;pass 8;wash 8;";
        due(Check.with(law, "wear 0 0 at 5;touch 0 1 at 5;"), 1, 0, 5, 16);
        due(Check.with(law, "touch 0 1 at 5;wear 0 0 at 5;"), 1, 0, 5, 0);
        due(Check.with(law, "wear 0 0 at 5;touch 0 1 at 5;bare 0 at 5;"), 1, 0, 5, 16);
        due(Check.with(law, "wear 0 0 at 5;bare 0 at 5;touch 0 1 at 5;"), 1, 0, 5, 0);
        due(Check.with(law, "wear 0 0 at 5;touch 0 1 at 5;shake 1 4 at 5;"), 1, 0, 5, 4);
        due(Check.with(law, "wear 0 0 at 5;shake 1 4 at 5;touch 0 1 at 5;"), 1, 0, 5, 16);
        due(Check.with(law, "wear 0 0 at 5;touch 0 1 at 5;wash 1 at 5;"), 1, 0, 5, 8);
        due(Check.with(law, "wear 0 0 at 5;wash 1 at 5;touch 0 1 at 5;"), 1, 0, 5, 16);
        due(Check.with(law, "wear 0 0 at 5;touch 0 1 at 5;touch 1 2 at 5;"), 2, 0, 5, 8);
        due(Check.with(law, "wear 0 0 at 5;touch 1 2 at 5;touch 0 1 at 5;"), 2, 0, 5, 0);
    }

    private static void wearAndBare() {
        Check.sentence("wear: the PLACE wears that GARMENT (none other); bare: none.");
        WoolThreads x = Check.with("shed 0 0 1;shed 7 1 2;",
            "bare 0 at 0;wear 0 0 at 1;touch 0 1 at 1;wear 0 7 at 2;touch 0 1 at 2;wear 0 7 at 3;bare 0 at 4;touch 0 1 at 4;bare 0 at 5;wear 0 0 at 6;touch 0 1 at 6;");
        int[] worn = {-1, 0, 7, 7, -1, -1, 0, 0};
        int[] zeroth = {0, 1, 1, 1, 1, 1, 2, 2};
        int[] first = {0, 0, 2, 2, 2, 2, 2, 2};
        for (int hour = 0; hour < worn.length; hour++) {
            Check.due("wears(0, 0, " + hour + ")", x.wears(0, 0, hour), worn[hour]);
            Check.due("wears(0, 1, " + hour + ")", x.wears(0, 1, hour), -1);
            due(x, 1, 0, hour, zeroth[hour]);
            due(x, 1, 1, hour, first[hour]);
        }
        WoolThreads two = Check.with("", "wear 0 3 at 0;wear 9 3 at 0;bare 9 at 1;");
        Check.due("two may wear one garment", two.wears(0, 9, 0), 3);
        Check.due("of which one is bare", two.wears(0, 9, 1), -1);
        Check.due("and the other not", two.wears(0, 0, 1), 3);
    }

    private static void touch() {
        Check.sentence("touch: all at once, both ways: what the one's GARMENT sheds comes on the other one");
        String law = "shed 0 0 3;shed 0 1 4;shed 1 0 5;shed 1 2 6;";
        int[][] want = {{5, 0, 6}, {3, 4, 0}};
        for (String touch : new String[] {"touch 4 5 at 0;", "touch 5 4 at 0;"}) {
            WoolThreads both = Check.with(law, "wear 4 0 at 0;wear 5 1 at 0;" + touch);
            WoolThreads one = Check.with(law, "wear 4 0 at 0;" + touch);
            WoolThreads none = Check.with(law, touch);
            for (int sort = 0; sort < 3; sort++) {
                due(both, 4, sort, 0, want[0][sort]);
                due(both, 5, sort, 0, want[1][sort]);
                due(one, 4, sort, 0, 0);
                due(one, 5, sort, 0, want[1][sort]);
                due(none, 4, sort, 0, 0);
                due(none, 5, sort, 0, 0);
                due(both, 3, sort, 0, 0);
                due(both, 6, sort, 0, 0);
            }
        }
    }

    private static void touchPasses() {
        Check.sentence("and of what lies on each as it begins pass sixteenths (cut) go over to the other.");
        for (int pass = 0; pass <= 8; pass++) {
            for (int many : new int[] {0, 1, 2, 3, 15, 16, 17, 200}) {
                WoolThreads x = Check.with("pass " + pass + ";shed 0 0 " + many + ";shed 1 0 37;",
                    "wear 0 0 at 0;wear 1 1 at 0;touch 0 2 at 0;touch 1 3 at 0;touch 2 3 at 1;touch 3 2 at 2;");
                int over = many * pass / 16;
                int back = 37 * pass / 16;
                due(x, 2, 0, 1, many - over + back);
                due(x, 3, 0, 1, 37 - back + over);
                due(x, 0, 0, 1, 0);
            }
        }
        // what is shed by a touch goes over by a later one only: half of 16 of the one, none of what comes now
        WoolThreads x = Check.with("pass 8;shed 0 0 16;", "wear 0 0 at 0;touch 0 1 at 0;touch 0 1 at 1;");
        due(x, 0, 0, 0, 0);
        due(x, 1, 0, 0, 16);
        due(x, 0, 0, 1, 8);
        due(x, 1, 0, 1, 24);
    }

    private static void washAndShake() {
        Check.sentence("wash: of all that lies there wash sixteenths (cut) stay; shake likewise.");
        for (int stay = 0; stay <= 16; stay++) {
            for (int many : new int[] {0, 1, 15, 16, 17, 200}) {
                WoolThreads x = Check.with("wash " + stay + ";shed 0 0 " + many + ";shed 0 9 16;", "wear 0 0 at 0;touch 0 1 at 0;touch 0 2 at 0;wash 1 at 1;shake 2 " + stay + " at 1;");
                due(x, 1, 0, 0, many);
                due(x, 1, 0, 1, many * stay / 16);
                due(x, 1, 9, 1, stay);
                due(x, 2, 0, 1, many * stay / 16);
                due(x, 2, 9, 1, stay);
            }
        }
        WoolThreads x = Check.with("wash 1;shed 0 0 16;", "wear 0 0 at 0;touch 0 1 at 0;touch 0 2 at 0;wash 0 at 0;shake 1 16 at 0;shake 2 0 at 1;wash 2 at 1;");
        due(x, 1, 0, 1, 16);
        due(x, 2, 0, 0, 16);
        due(x, 2, 0, 1, 0);
        Check.due("what is washed is worn on", x.wears(0, 0, 1), 0);
    }

    private static void lies() {
        Check.sentence("LIES: how many threads of a SORT lie on a PLACE as an HOUR is over, ahead of what is lost at its end (all EVENTS of it being done;");
        WoolThreads x = Check.with("shed 0 0 16;hold 0 0;", "wear 0 0 at 7;touch 0 1 at 7;touch 0 1 at 7;touch 0 1 at 8;");
        due(x, 1, 0, 0, 0);
        due(x, 1, 0, 6, 0);
        due(x, 1, 0, 7, 32);
        due(x, 1, 0, 8, 16);
        due(x, 1, 0, 9, 0);
        WoolThreads last = Check.with("shed 0 0 16;hold 0 0;", "wear 0 0 at 0;touch 0 1 at 0;touch 0 2 at 99;");
        due(last, 1, 0, 0, 16);
        due(last, 1, 0, 1, 0);
        due(last, 2, 0, 98, 0);
        due(last, 2, 0, 99, 16);
    }

    /** Eighteen touches of two that wear something shed 7,200 threads in all, so 9,999 is out of reach: nothing is cut. */
    private static void most() {
        Check.sentence("9,999 at most of each at any time).");
        WoolThreads x = Check.with("shed 0 0 200;", "wear 0 0 at 0;" + "touch 0 1 at 0;".repeat(19));
        due(x, 1, 0, 0, 3800);
        due(x, 1, 0, 99, 3800);
        Check.due("the pile of it", x.pile(0, 1, 0, 99), 60);
        WoolThreads both = Check.with("shed 0 0 200;pass 8;", "wear 0 0 at 0;wear 1 0 at 0;" + "touch 0 1 at 0;".repeat(18));
        due(both, 0, 0, 0, 3600);
        due(both, 1, 0, 0, 3600);
    }

    private static void alike() {
        Check.sentence("ALIKE are SORTS that a glass tells alike, also by way of others.");
        String[] laws = {"", "alike 0 9;", "alike 0 1;alike 1 9;", "alike 1 9;alike 0 1;", "alike 9 5;alike 0 4;alike 4 5;",
            "alike 0 1;alike 2 3;", "alike 0 1;alike 2 3;alike 4 5;alike 6 7;alike 8 9;alike 1 2;alike 3 4;alike 5 6;alike 7 8;"};
        int[] zero = {1, 513, 515, 515, 561, 3, 1023};
        int[] nine = {512, 513, 515, 515, 561, 512, 1023};
        int[] three = {8, 8, 8, 8, 8, 12, 1023};
        for (int i = 0; i < laws.length; i++) {
            WoolThreads x = Check.with(laws[i]);
            Check.due("alike(0) of " + laws[i], x.alike(0), zero[i]);
            Check.due("alike(9) of " + laws[i], x.alike(9), nine[i]);
            Check.due("alike(3) of " + laws[i], x.alike(3), three[i]);
        }
    }

    private static void piles() {
        Check.sentence("PILE of a SORT on a PLACE: LIES and common of it and of all that are ALIKE with it, 60 at most.");
        for (int many : new int[] {0, 1, 59, 60, 61, 200}) {
            WoolThreads lying = Check.with("shed 0 0 " + many + ";", "wear 0 0 at 0;touch 0 1 at 0;");
            Check.due("a pile of LIES " + many, lying.pile(0, 1, 0, 0), Math.min(60, many));
            Check.due("a pile of none beside it", lying.pile(0, 2, 0, 0), 0);
        }
        for (int many : new int[] {38, 39, 40, 41}) {
            WoolThreads x = Check.with("common 0 20;shed 0 0 " + many + ";", "wear 0 0 at 0;touch 0 1 at 0;");
            Check.due("a pile of LIES and common " + many, x.pile(0, 1, 0, 0), Math.min(60, many + 20));
            WoolThreads y = Check.with("common 0 20;shed 0 5 " + many + ";alike 0 5;", "wear 0 0 at 0;touch 0 1 at 0;");
            Check.due("a pile of one alike " + many, y.pile(0, 1, 0, 0), Math.min(60, many + 20));
            Check.due("the pile of that one", y.pile(0, 1, 5, 0), Math.min(60, many + 20));
            Check.due("its LIES", y.lies(0, 1, 5, 0), many);
            Check.due("LIES of the other", y.lies(0, 1, 0, 0), 0);
        }
        for (int many : new int[] {19, 20}) {
            WoolThreads x = Check.with("common 0 20;common 1 20;common 2 " + many + ";alike 0 1;alike 1 2;", "");
            Check.due("a pile of commons", x.pile(0, 9, 0, 99), 40 + many);
        }
        WoolThreads four = Check.with("common 0 20;common 1 20;common 2 20;common 3 1;alike 0 1;alike 1 2;alike 2 3;", "");
        Check.due("a pile of commons beyond", four.pile(0, 9, 3, 99), 60);
        WoolThreads apart = Check.with("common 0 20;common 1 20;common 2 20;alike 0 1;", "");
        Check.due("a pile of commons, one apart", apart.pile(0, 9, 0, 99), 40);
        Check.due("a pile of the one apart", apart.pile(0, 9, 2, 99), 20);
    }
}
