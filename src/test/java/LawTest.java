/** Promises 6 to 8: what the law tells. */
public final class LawTest {
    public static void main(String[] args) {
        sheds();
        told();
        alike();
        Check.end("LawTest");
    }

    private static void sheds() {
        WoolThreads x = Check.with("shed 0 0 1;shed 7 9 200;shed 7 0 3;shed 0 9 4;shed 7 9 5;shed 3 4 6;shed 3 4 0;");
        for (int garment = 0; garment < 8; garment++) {
            for (int sort = 0; sort < 10; sort++) {
                int want = garment == 0 && sort == 0 ? 1 : garment == 7 && sort == 0 ? 3
                    : garment == 0 && sort == 9 ? 4 : garment == 7 && sort == 9 ? 5 : 0;
                Check.due("sheds(" + garment + ", " + sort + ")", x.sheds(garment, sort), want);
            }
        }
        for (int no : new int[] {-1, 8, Integer.MAX_VALUE, Integer.MIN_VALUE}) {
            Check.iae(x, "sheds(" + no + ", 0)", () -> x.sheds(no, 0));
        }
        for (int no : new int[] {-1, 10, Integer.MAX_VALUE, Integer.MIN_VALUE}) {
            Check.iae(x, "sheds(0, " + no + ")", () -> x.sheds(0, no));
        }
    }

    private static void told() {
        WoolThreads x = Check.with("hold 2 7;hold 3 8;hold 2 9;common 2 20;common 4 1;common 4 2;wash 3;wash 4;pass 8;pass 5;take 15;take 6;");
        int[] hold = {16, 16, 9, 8, 16, 16, 16, 16, 16, 16};
        int[] common = {0, 0, 20, 0, 2, 0, 0, 0, 0, 0};
        for (int sort = 0; sort < 10; sort++) {
            Check.due("told(" + sort + ", 0)", x.told(sort, 0), hold[sort]);
            Check.due("told(" + sort + ", 1)", x.told(sort, 1), common[sort]);
            Check.due("told(" + sort + ", 2)", x.told(sort, 2), 4);
            Check.due("told(" + sort + ", 3)", x.told(sort, 3), 5);
            Check.due("told(" + sort + ", 4)", x.told(sort, 4), 6);
        }
        for (int what = 0; what < 5; what++) {
            int it = what;
            Check.iae(x, "told(-1, " + what + ")", () -> x.told(-1, it));
            Check.iae(x, "told(10, " + what + ")", () -> x.told(10, it));
        }
        for (int no : new int[] {-1, 5, Integer.MAX_VALUE, Integer.MIN_VALUE}) {
            Check.iae(x, "told(0, " + no + ")", () -> x.told(0, no));
        }
    }

    private static void alike() {
        WoolThreads x = Check.with("alike 0 1;alike 2 3;alike 8 9;alike 3 1;alike 1 0;alike 5 7;");
        int[] want = {15, 15, 15, 15, 16, 160, 64, 160, 768, 768};
        for (int sort = 0; sort < 10; sort++) {
            Check.due("alike(" + sort + ")", x.alike(sort), want[sort]);
        }
        WoolThreads chain = Check.with("alike 9 8;alike 0 1;alike 7 6;alike 2 3;alike 5 4;alike 1 2;alike 8 7;alike 3 4;alike 6 5;");
        for (int sort = 0; sort < 10; sort++) {
            Check.due("alike(" + sort + ") in a chain", chain.alike(sort), 1023);
        }
        Check.iae(x, "alike(-1)", () -> x.alike(-1));
        Check.iae(x, "alike(10)", () -> x.alike(10));
    }
}
