/** Promises 12 to 14, 35 and 36: finds, and images of finds, seats and shops. */
public final class FindTest {
    public static void main(String[] args) {
        finds();
        wrong();
        drops();
        images();
        imagesLeaveTexts();
        Check.end("FindTest");
    }

    private static void dueFind(WoolThreads x, int find, int place, int hour, int sort, int many) {
        Check.due("found(" + find + ", 0)", x.found(find, 0), place);
        Check.due("found(" + find + ", 1)", x.found(find, 1), hour);
        Check.due("found(" + find + ", 2)", x.found(find, 2), sort);
        Check.due("found(" + find + ", 3)", x.found(find, 3), many);
    }

    private static void finds() {
        WoolThreads x = new WoolThreads();
        Check.due("find 0", x.find(0, 0, 0, 0), 0);
        Check.due("find 1", x.find(9, 99, 9, 60), 1);
        for (int i = 2; i < 8; i++) {
            Check.due("find " + i, x.find(i, 10 * i, i + 1, 3 * i), i);
        }
        Check.due("a ninth", x.find(1, 1, 1, 1), -1);
        Check.due("count(2)", x.count(2), 8);
        dueFind(x, 0, 0, 0, 0, 0);
        dueFind(x, 1, 9, 99, 9, 60);
        for (int i = 2; i < 8; i++) {
            dueFind(x, i, i, 10 * i, i + 1, 3 * i);
        }
        Check.iae(x, "a ninth of a wrong place", () -> x.find(10, 0, 0, 0));
    }

    private static void wrong() {
        WoolThreads x = new WoolThreads();
        x.find(1, 2, 3, 4);
        for (int no : new int[] {-1, 10, Integer.MAX_VALUE, Integer.MIN_VALUE}) {
            Check.iae(x, "find of place " + no, () -> x.find(no, 0, 0, 0));
            Check.iae(x, "find of sort " + no, () -> x.find(0, 0, no, 0));
        }
        for (int no : new int[] {-1, 100, Integer.MAX_VALUE, Integer.MIN_VALUE}) {
            Check.iae(x, "find at hour " + no, () -> x.find(0, no, 0, 0));
        }
        for (int no : new int[] {-1, 61, Integer.MAX_VALUE, Integer.MIN_VALUE}) {
            Check.iae(x, "find of " + no, () -> x.find(0, 0, 0, no));
        }
        for (int no : new int[] {-1, 1, 8, Integer.MAX_VALUE, Integer.MIN_VALUE}) {
            Check.index(x, "found of find " + no, () -> x.found(no, 0));
            Check.index(x, "found of find " + no + " and of a wrong what", () -> x.found(no, 4));
            Check.index(x, "drop of find " + no, () -> x.drop(no));
        }
        for (int no : new int[] {-1, 4, Integer.MAX_VALUE, Integer.MIN_VALUE}) {
            Check.iae(x, "found of what " + no, () -> x.found(0, no));
        }
    }

    private static void drops() {
        WoolThreads x = new WoolThreads();
        for (int i = 0; i < 8; i++) {
            x.find(i, i, i, i);
        }
        Check.due("drop(7)", x.drop(7), 7);
        Check.due("drop(0)", x.drop(0), 6);
        Check.due("drop(2)", x.drop(2), 5);
        int[] left = {1, 2, 4, 5, 6};
        for (int i = 0; i < left.length; i++) {
            dueFind(x, i, left[i], left[i], left[i], left[i]);
        }
        Check.index(x, "found(5, 0)", () -> x.found(5, 0));
        Check.due("find again", x.find(9, 9, 9, 9), 5);
        dueFind(x, 5, 9, 9, 9, 9);
        for (int i = 5; i >= 0; i--) {
            Check.due("drop(0)", x.drop(0), i);
        }
        Check.index(x, "drop(0) of none", () -> x.drop(0));
    }

    private static void images() {
        WoolThreads x = new WoolThreads();
        x.find(1, 2, 3, 4);
        x.seat(1);
        x.shop(1, 1, 10);
        Check.due("image 1", x.image(), 1);
        x.find(5, 6, 7, 8);
        x.seat(3);
        x.shop(1, 9, 10);
        Check.due("image 2", x.image(), 2);
        x.drop(0);
        x.seat(3);
        Check.due("image 3", x.image(), 3);
        Check.due("image 4", x.image(), -1);
        x.drop(0);
        x.seat(7);
        x.shop(2, 1, 1);
        Check.due("count(5)", x.count(5), 3);
        Check.due("restore to 3", x.restore(), 2);
        Check.due("finds then", x.count(2), 1);
        dueFind(x, 0, 5, 6, 7, 8);
        Check.due("seats then", x.count(3), 3);
        Check.due("shops then", x.count(4), 2);
        Check.due("rare(2, 0) then", x.rare(2, 0), -1);
        Check.due("restore to 2", x.restore(), 1);
        dueFind(x, 0, 1, 2, 3, 4);
        dueFind(x, 1, 5, 6, 7, 8);
        Check.due("share(1) then", x.share(1), 1);
        Check.due("image 2 again", x.image(), 2);
        Check.due("restore it", x.restore(), 1);
        Check.due("restore to 1", x.restore(), 0);
        Check.due("finds at last", x.count(2), 1);
        Check.due("seats at last", x.count(3), 1);
        Check.due("shops at last", x.count(4), 1);
        Check.due("rare(1, 0) at last", x.rare(1, 0), 100);
        Check.due("rare(1, 1) at last", x.rare(1, 1), 100);
        Check.due("rare(1, 2) at last", x.rare(1, 2), 100);
        Check.due("share(1) at last", x.share(1), 0);
        Check.due("restore of none", x.restore(), -1);
        Check.due("count(5) at last", x.count(5), 0);
    }

    private static void imagesLeaveTexts() {
        WoolThreads x = Check.with("take 3;", "bare 0 at 1;");
        x.image();
        Check.law(x, "take 4;take 5;");
        Check.story(x, "");
        Check.law(x, "?");
        x.feed(0, 0, 0, 0, 0);
        Check.due("restore", x.restore(), 0);
        Check.due("the law stays", x.told(0, 4), 5);
        Check.due("stories stay", x.count(1), 2);
        Check.due("the tape stays", x.count(6), 20);
        Check.due("the fault stays", x.fault(), 0);
    }
}
