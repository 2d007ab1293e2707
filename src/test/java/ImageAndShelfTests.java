/** Promises 28 to 37: the image, what is told, shelves. */
public final class ImageAndShelfTests {
    private static final Checks CHECKS = new Checks();

    private ImageAndShelfTests() {
    }

    public static void main(String[] args) {
        promise28And29Image();
        promise30Count();
        promise31Keep();
        promise32Row();
        promise33Put();
        promise34Element();
        promise35Copy();
        promise35CopyRefusals();
        promise36Cost();
        promise37Toss();
        CHECKS.end();
    }

    private static void due(String call, long got, long want) {
        CHECKS.due(call, got, want);
    }

    private static void promise28And29Image() {
        PensGo x = new PensGo();
        due("no image", x.restore(), -3);
        Checks.read(x, "p010;p120;w019;s13;k27;g9;h;");
        due("image()", x.image(), 2);
        Checks.read(x, "u;m05;p333;p444;w011;w129;s11;k21;g1;h;h;");
        x.keep(3, 1, 1, 9);
        due("restore()", x.restore(), 2);
        due("pens", x.count(0), 2);
        due("hour", x.count(1), 1);
        due("ways", x.count(3), 9);
        due("place", x.pen(0, 2), 1);
        due("kind and figure", x.pen(1, 0) * 10 + x.pen(1, 1), 12);
        due("hold", x.set(1, 0, 4), 3);
        due("walk", x.set(2, 1, 4), 7);
        due("pull", x.set(0, 2, 4), 9);
        due("shelves stay", x.cost(3), 12);
        x.move(0, 4);
        due("the image stays", x.restore(), 2);
        due("place again", x.pen(0, 2), 1);
        due("hold again", x.set(1, 0, 4), 3);
        Checks.read(x, "u;u;");
        due("a later image", x.image(), 0);
        Checks.read(x, "p000;");
        due("is the one", x.restore(), 0);
        due("the image's hour", x.count(1), 1);
    }

    private static void promise30Count() {
        PensGo x = Checks.made("p030;p135;p605;w019;w543;w105;h;h;");
        due("pens", x.count(0), 3);
        due("hour", x.count(1), 2);
        due("2 + 8 + 0", x.count(2), 10);
        due("9 + 3 + 5", x.count(3), 17);
        due("places 0, 4, 5", x.count(4), 49);
        due("count(5)", x.count(5), -1);
        due("count(-1)", x.count(-1), -1);
    }

    private static void promise31Keep() {
        PensGo x = new PensGo();
        due("keep a pen", x.keep(7, 1, 7, 9), 0);
        due("it is HOMED 9", x.cost(7), 32);
        due("keep nothing", x.keep(7, 0, 99, -5), 0);
        due("it is nothing", x.cost(7), -11);
        x.row(7, 0, 3);
        due("keep nothing in place of a row", x.keep(7, 0, 0, 0), 0);
        due("no row", Checks.element(x, 7, 0), 1002);
        x.row(7, 0, 3);
        due("a pen in place of a row", x.keep(7, 1, 0, 0), 0);
        due("it is no row", x.put(7, 0, 0), -12);
        due("no such shelf", x.keep(8, 1, 0, 0), -1);
        due("no such shelf", x.keep(-1, 0, 0, 0), -1);
        due("no such what", x.keep(7, 2, 0, 0), -1);
        due("no such what", x.keep(7, -1, 0, 0), -1);
        due("no such kind", x.keep(7, 1, 8, 0), -1);
        due("no such kind", x.keep(7, 1, -1, 0), -1);
        due("no such figure", x.keep(7, 1, 0, 10), -1);
        due("no such figure", x.keep(7, 1, 0, -1), -1);
        due("still the pen", x.cost(7), 3);
    }

    private static void promise32Row() {
        PensGo x = new PensGo();
        x.keep(0, 1, 0, 0);
        due("row(0, 2, 100)", x.row(0, 2, 100), 0);
        due("all 0", Checks.element(x, 0, 99), 0);
        due("its size", Checks.element(x, 0, 100), 1002);
        due("no pen now", x.cost(0), -12);
        x.put(0, 0, 5);
        due("101", x.row(0, 2, 101), -1);
        due("-1", x.row(0, 2, -1), -14);
        due("far below 0", x.row(0, 0, -2147483648), -14);
        due("sort 3", x.row(0, 3, 1), -1);
        due("sort -1", x.row(0, -1, 1), -1);
        due("-1 ahead of -14", x.row(0, 3, -1), -1);
        due("no such shelf", x.row(8, 0, 1), -1);
        due("no such shelf", x.row(-1, 0, -1), -1);
        due("still the row", Checks.element(x, 0, 0), 5);
        due("no elements", x.row(0, 0, 0), 0);
        due("none at 0", x.put(0, 0, 1), -13);
        due("a new row", x.row(0, 2, 1) + Checks.element(x, 0, 0), 0);
    }

    private static void promise33Put() {
        PensGo x = new PensGo();
        x.row(0, 0, 2);
        x.row(1, 1, 2);
        x.row(2, 2, 2);
        int[] put = {127, 128, -129, 255, 65535, 32768, 1 << 16, -2147483648};
        int[] bytes = {127, -128, 127, -1, -1, 0, 0, 0};
        int[] shorts = {127, 128, -129, 255, -1, -32768, 0, 0};
        for (int i = 0; i < put.length; i++) {
            due("put byte " + put[i], x.put(0, 1, put[i]), 0);
            due("byte " + put[i], Checks.element(x, 0, 1), bytes[i]);
            due("put short " + put[i], x.put(1, 1, put[i]), 0);
            due("short " + put[i], Checks.element(x, 1, 1), shorts[i]);
            due("put int " + put[i], x.put(2, 1, put[i]), 0);
            due("int " + put[i], Checks.element(x, 2, 1), put[i]);
        }
        due("the other element", Checks.element(x, 2, 0), 0);
        due("no such shelf", x.put(8, 0, 0), -1);
        due("no such shelf", x.put(-1, 0, 0), -1);
        due("nothing held", x.put(7, 0, 0), -11);
        x.keep(7, 1, 0, 0);
        due("a pen", x.put(7, 0, 0), -12);
        due("behind the end", x.put(0, 2, 0), -13);
        due("below 0", x.put(0, -1, 0), -13);
    }

    private static void promise34Element() {
        PensGo x = new PensGo();
        Checks.layRow(x, 0, 2, 7, -8);
        due("first", Checks.element(x, 0, 0), 7);
        due("last", Checks.element(x, 0, 1), -8);
        due("no such shelf", Checks.element(x, 8, 0), 1001);
        due("no such shelf", Checks.element(x, -1, -1), 1001);
        due("nothing held", Checks.element(x, 1, 0), 1002);
        x.keep(1, 1, 0, 0);
        due("a pen", Checks.element(x, 1, 0), 1002);
        due("behind the end", Checks.element(x, 0, 2), 1002);
        due("below 0", Checks.element(x, 0, -1), 1002);
    }

    private static void promise35Copy() {
        PensGo x = new PensGo();
        Checks.layRow(x, 0, 2, 1, 2, 3, 4, 5);
        x.row(1, 2, 3);
        due("copy(0, 2, 1, 0, 3)", x.copy(0, 2, 1, 0, 3), 3);
        for (int i = 0; i < 3; i++) {
            due("copied " + i, Checks.element(x, 1, i), i + 3);
        }
        due("copied stays", Checks.element(x, 0, 2), 3);
        due("up in one row", x.copy(0, 0, 0, 1, 4), 4);
        int[] up = {1, 1, 2, 3, 4};
        for (int i = 0; i < 5; i++) {
            due("up " + i, Checks.element(x, 0, i), up[i]);
        }
        due("down in one row", x.copy(0, 2, 0, 0, 3), 3);
        int[] down = {2, 3, 4, 3, 4};
        for (int i = 0; i < 5; i++) {
            due("down " + i, Checks.element(x, 0, i), down[i]);
        }
        due("none", x.copy(0, 0, 1, 0, 0), 0);
        due("none at the ends", x.copy(0, 5, 1, 3, 0), 0);
        x.put(1, 0, 77);
        due("rows are two", Checks.element(x, 0, 2), 4);
    }

    private static void promise35CopyRefusals() {
        PensGo x = new PensGo();
        x.row(0, 2, 5);
        x.row(1, 2, 3);
        x.row(2, 1, 3);
        x.keep(3, 1, 0, 0);
        due("no such shelf", x.copy(8, 0, 1, 0, 1), -1);
        due("no such shelf", x.copy(0, 0, -1, 0, 1), -1);
        due("no such shelf ahead of nothing", x.copy(7, 0, 8, 0, 1), -1);
        due("nothing at the first", x.copy(7, 0, 1, 0, 1), -11);
        due("nothing at the second", x.copy(0, 0, 7, 0, 1), -11);
        due("nothing ahead of a pen", x.copy(3, 0, 7, 0, 1), -11);
        due("a pen", x.copy(3, 0, 0, 0, 1), -12);
        due("a pen", x.copy(0, 0, 3, 0, 1), -12);
        due("two pens", x.copy(3, 0, 3, 0, 1), -12);
        due("two sorts", x.copy(0, 0, 2, 0, 1), -12);
        due("two sorts, none", x.copy(0, 0, 2, 0, -1), -12);
        due("n below 0", x.copy(0, 0, 1, 0, -1), -13);
        due("i below 0", x.copy(0, -1, 1, 0, 1), -13);
        due("j below 0", x.copy(0, 0, 1, -1, 1), -13);
        due("too far in the first", x.copy(0, 3, 1, 0, 3), -13);
        due("too far in the second", x.copy(0, 0, 1, 1, 3), -13);
        due("i behind the end", x.copy(0, 6, 1, 0, 0), -13);
        due("j behind the end", x.copy(0, 0, 1, 4, 0), -13);
        due("the greatest n", x.copy(0, 1, 1, 1, 2147483647), -13);
        due("the greatest i", x.copy(0, 2147483647, 1, 0, 2), -13);
    }

    private static void promise36Cost() {
        int[] due = {3, 7, 0, 6, 11, 11, 1, 22};
        PensGo x = new PensGo();
        for (int kind = 0; kind < 8; kind++) {
            x.keep(0, 1, kind, 4);
            due("cost of kind " + kind, x.cost(0), due[kind]);
        }
        due("no such shelf", x.cost(8), -1);
        due("no such shelf", x.cost(-1), -1);
        due("nothing held", x.cost(1), -11);
        x.row(1, 0, 0);
        due("a row", x.cost(1), -12);
    }

    private static void promise37Toss() {
        int[] due = {4, 4, 4, 104, 4, 211, -15, 4};
        PensGo x = new PensGo();
        for (int kind = 0; kind < 8; kind++) {
            x.keep(0, 1, kind, 4);
            due("toss of kind " + kind, x.toss(0), due[kind]);
            x.keep(0, 1, kind, 0);
            due("toss of FIGURE 0, kind " + kind, x.toss(0), -15);
        }
        due("no such shelf", x.toss(8), -1);
        due("no such shelf", x.toss(-1), -1);
        due("nothing held", x.toss(1), -11);
        x.row(1, 0, 0);
        due("a row", x.toss(1), -12);
    }
}
