/** The edges of promises 28 to 37: no image, images of none and ten, rows of 0 and 100, bits. */
public final class ShelfEdgeTests {
    private static final Checks CHECKS = new Checks();

    private ShelfEdgeTests() {
    }

    public static void main(String[] args) {
        noImage();
        imageOfNoneAndOfTen();
        imageOfTheLastHour();
        aLaterImageIsTheOne();
        theImageStays();
        shelvesAreNotInTheImage();
        countOfNoneAndOfAll();
        allShelvesHold();
        aShelfHoldsOneThing();
        rowsOfNoneAndOfAHundred();
        aNewRowIsAll0();
        bytesKeepTheirLowestBits();
        shortsKeepTheirLowestBits();
        intsKeepAllBits();
        copyOfNoneAndOfAll();
        copyWithinARow();
        copyOfEachSort();
        tossOfEachKind();
        tossOfFigure0();
        CHECKS.end();
    }

    private static void due(String call, long got, long want) {
        CHECKS.due(call, got, want);
    }

    // ---- the image

    private static void noImage() {
        PensGo x = Checks.made("p000;w019;");
        due("no image", x.restore(), -3);
        due("no image still", x.restore(), -3);
        due("the pen is there", x.count(0), 1);
        due("image", x.image(), 1);
        due("now there is one", x.restore(), 1);
        due("and again", x.restore(), 1);
    }

    private static void imageOfNoneAndOfTen() {
        PensGo x = new PensGo();
        due("image of none", x.image(), 0);
        Checks.read(x, "p000;p111;p222;p333;p444;p555;p660;p771;p082;p193;");
        due("ten", x.count(0), 10);
        due("restored none", x.restore(), 0);
        due("none", x.count(0), 0);
        due("no PLACE", x.count(4), 0);
        due("no first PEN", x.pen(0, 0), -1);
        x.office(0);
        due("image of ten", x.image(), 10);
        Checks.read(x, "u;u;u;u;u;u;u;u;u;u;");
        due("none again", x.count(0), 0);
        due("restored ten", x.restore(), 10);
        due("the tenth", x.pen(9, 0) * 100 + x.pen(9, 1) * 10 + x.pen(9, 2), 193);
        x.keep(1, 1, 0, 0);
        due("no room for more", x.comes(1, 0), -2);
    }

    private static void imageOfTheLastHour() {
        PensGo x = new PensGo();
        x.hours(1);
        x.image();
        Worlds.passTo(x, 999);
        due("the last HOUR", x.hours(1), -2);
        x.restore();
        due("HOUR as it was", x.count(1), 1);
        due("HOURS go by again", x.hours(99), 100);
        Worlds.passTo(x, 999);
        x.image();
        due("restored at 999", x.restore(), 0);
        due("still the last", x.hours(1), -2);
    }

    private static void aLaterImageIsTheOne() {
        PensGo x = Checks.made("p000;");
        x.image();
        x.move(0, 1);
        x.image();
        x.move(0, 2);
        due("restored", x.restore(), 1);
        due("as at the later one", x.pen(0, 2), 1);
    }

    private static void theImageStays() {
        PensGo x = Checks.made("p000;w019;s11;k12;g6;");
        x.image();
        for (int i = 0; i < 3; i++) {
            Checks.read(x, "p111;m05;w012;w344;s12;k13;g7;h;h;");
            due("restored", x.restore(), 1);
            due("one PEN", x.count(0), 1);
            due("no HOUR", x.count(1), 0);
            due("its WORTH", x.count(2), 2);
            due("one WAY", x.count(3), 9);
            due("its PLACE", x.count(4), 1);
            due("HOLD", x.set(1, 0, 5), 1);
            due("WALK", x.set(1, 1, 5), 2);
            due("PULL", x.set(1, 2, 5), 6);
        }
    }

    private static void shelvesAreNotInTheImage() {
        PensGo x = new PensGo();
        x.keep(0, 1, 1, 9);
        Checks.layRow(x, 1, 2, 7);
        x.image();
        x.keep(0, 0, 0, 0);
        x.put(1, 0, 8);
        x.keep(2, 1, 0, 0);
        x.restore();
        due("nothing as it is now", x.cost(0), -11);
        due("the element as it is now", Checks.element(x, 1, 0), 8);
        due("the PEN as it is now", x.cost(2), 3);
    }

    // ---- what is told

    private static void countOfNoneAndOfAll() {
        for (int what = 0; what < 5; what++) {
            due("count of none", new PensGo().count(what), 0);
        }
        PensGo x = Checks.made("p790;p791;p792;p793;p794;p795;p795;p795;p795;p795;");
        for (int p = 0; p < 6; p++) {
            for (int q = 0; q < 6; q++) {
                x.way(p, q, 9);
            }
        }
        due("all PENS", x.count(0), 10);
        due("all WORTHS", x.count(2), 310);
        due("all WAYS", x.count(3), 270);
        due("all PLACES", x.count(4), 63);
        for (int place = 0; place < 6; place++) {
            due("one PLACE", Worlds.chained(10, place).count(4), 1 << place);
        }
    }

    // ---- shelves

    private static void allShelvesHold() {
        PensGo x = new PensGo();
        for (int d = 0; d < 8; d++) {
            due("keep", x.keep(d, 1, 1, d), 0);
        }
        for (int d = 0; d < 8; d++) {
            due("COST on " + d, x.cost(d), 3 + d);
        }
        for (int d = 0; d < 8; d++) {
            due("row", x.row(d, d % 3, d + 1), 0);
            due("put", x.put(d, d, d), 0);
        }
        for (int d = 0; d < 8; d++) {
            due("the last element on " + d, Checks.element(x, d, d), d);
            due("one behind it", Checks.element(x, d, d + 1), 1002);
        }
    }

    private static void aShelfHoldsOneThing() {
        PensGo x = new PensGo();
        x.keep(0, 1, 0, 5);
        x.row(0, 2, 1);
        due("a row, no pen", x.cost(0), -12);
        due("a row, no pen to toss", x.toss(0), -12);
        due("none comes of a row", x.comes(0, 0), -12);
        x.keep(0, 1, 0, 5);
        due("a pen, no row", Checks.element(x, 0, 0), 1002);
        due("a pen, nothing to put", x.put(0, 0, 1), -12);
        due("a pen", x.cost(0), 3);
        x.keep(0, 0, 0, 0);
        due("neither a pen", x.cost(0), -11);
        due("nor a row", x.put(0, 0, 1), -11);
        due("nothing to copy", x.copy(0, 0, 0, 0, 0), -11);
        due("nothing to read", x.office(0), -11);
    }

    private static void rowsOfNoneAndOfAHundred() {
        for (int sort = 0; sort < 3; sort++) {
            PensGo x = new PensGo();
            due("none", x.row(0, sort, 0), 0);
            due("no first", x.put(0, 0, 1), -13);
            due("no first to tell", Checks.element(x, 0, 0), 1002);
            due("one", x.row(0, sort, 1), 0);
            due("a first", x.put(0, 0, 1), 0);
            due("no second", x.put(0, 1, 1), -13);
            due("a hundred", x.row(0, sort, 100), 0);
            for (int i = 0; i < 100; i++) {
                due("0 at first", Checks.element(x, 0, i), 0);
                due("put", x.put(0, i, i - 50), 0);
            }
            for (int i = 0; i < 100; i++) {
                due("as put", Checks.element(x, 0, i), i - 50);
            }
            due("no hundred and first", x.put(0, 100, 1), -13);
            due("none to tell", Checks.element(x, 0, 100), 1002);
            due("a hundred and one", x.row(0, sort, 101), -1);
            due("the row stays", Checks.element(x, 0, 99), 49);
            due("one less than none", x.row(0, sort, -1), -14);
            due("the row stays", Checks.element(x, 0, 0), -50);
        }
    }

    private static void aNewRowIsAll0() {
        PensGo x = new PensGo();
        Checks.layRow(x, 0, 2, 1, 2, 3);
        x.row(0, 2, 3);
        for (int i = 0; i < 3; i++) {
            due("0 again", Checks.element(x, 0, i), 0);
        }
        x.put(0, 1, 5);
        x.row(1, 2, 3);
        due("another row", Checks.element(x, 1, 1), 0);
        due("the one", Checks.element(x, 0, 1), 5);
    }

    private static void puts(int sort, int v, int want) {
        PensGo x = new PensGo();
        x.row(0, sort, 3);
        due("put of SORT " + sort, x.put(0, 1, v), 0);
        due("SORT " + sort + " of " + v, Checks.element(x, 0, 1), want);
        due("the one ahead", Checks.element(x, 0, 0), 0);
        due("the one behind", Checks.element(x, 0, 2), 0);
    }

    private static void bytesKeepTheirLowestBits() {
        puts(0, 127, 127);
        puts(0, 128, -128);
        puts(0, -128, -128);
        puts(0, -129, 127);
        puts(0, 255, -1);
        puts(0, 256, 0);
        puts(0, -256, 0);
        puts(0, -257, -1);
        puts(0, Integer.MAX_VALUE, -1);
        puts(0, Integer.MIN_VALUE, 0);
    }

    private static void shortsKeepTheirLowestBits() {
        puts(1, 128, 128);
        puts(1, 32767, 32767);
        puts(1, 32768, -32768);
        puts(1, -32768, -32768);
        puts(1, -32769, 32767);
        puts(1, 65535, -1);
        puts(1, 65536, 0);
        puts(1, -65536, 0);
        puts(1, Integer.MAX_VALUE, -1);
        puts(1, Integer.MIN_VALUE, 0);
    }

    private static void intsKeepAllBits() {
        puts(2, 65536, 65536);
        puts(2, -1, -1);
        puts(2, Integer.MAX_VALUE, Integer.MAX_VALUE);
        puts(2, Integer.MIN_VALUE, Integer.MIN_VALUE);
    }

    private static void copyOfNoneAndOfAll() {
        PensGo x = new PensGo();
        x.row(0, 2, 100);
        x.row(1, 2, 100);
        for (int i = 0; i < 100; i++) {
            x.put(0, i, i + 1);
        }
        due("none, from the end to the end", x.copy(0, 100, 1, 100, 0), 0);
        due("all but one too far", x.copy(0, 1, 1, 0, 100), -13);
        due("all but one too far there", x.copy(0, 0, 1, 1, 100), -13);
        due("nothing has come", Checks.element(x, 1, 0) + Checks.element(x, 1, 99), 0);
        due("the last to the first", x.copy(0, 99, 1, 0, 1), 1);
        due("it is there", Checks.element(x, 1, 0), 100);
        due("the first to the last", x.copy(0, 0, 1, 99, 1), 1);
        due("it is there", Checks.element(x, 1, 99), 1);
        due("between them nothing", Checks.element(x, 1, 1) + Checks.element(x, 1, 98), 0);
        due("all", x.copy(0, 0, 1, 0, 100), 100);
        for (int i = 0; i < 100; i++) {
            due("copied " + i, Checks.element(x, 1, i), i + 1);
        }
        x.put(0, 50, -1);
        due("the rows are two still", Checks.element(x, 1, 50), 51);
    }

    private static void copyWithinARow() {
        PensGo x = new PensGo();
        Checks.layRow(x, 0, 0, 1, 2, 3, 4, 5);
        due("up by one", x.copy(0, 0, 0, 1, 4), 4);
        int[] up = {1, 1, 2, 3, 4};
        for (int i = 0; i < 5; i++) {
            due("up, " + i, Checks.element(x, 0, i), up[i]);
        }
        due("down by two", x.copy(0, 2, 0, 0, 3), 3);
        int[] down = {2, 3, 4, 3, 4};
        for (int i = 0; i < 5; i++) {
            due("down, " + i, Checks.element(x, 0, i), down[i]);
        }
        due("too far by one", x.copy(0, 2, 0, 0, 4), -13);
        due("too far by one there", x.copy(0, 0, 0, 2, 4), -13);
    }

    private static void copyOfEachSort() {
        int[][] values = {{-128, 127}, {-32768, 32767}, {Integer.MIN_VALUE, Integer.MAX_VALUE}};
        for (int sort = 0; sort < 3; sort++) {
            PensGo x = new PensGo();
            Checks.layRow(x, 0, sort, values[sort]);
            x.row(7, sort, 2);
            due("copy of SORT " + sort, x.copy(0, 0, 7, 0, 2), 2);
            due("its least", Checks.element(x, 7, 0), values[sort][0]);
            due("its greatest", Checks.element(x, 7, 1), values[sort][1]);
            due("it stays there", Checks.element(x, 0, 0), values[sort][0]);
        }
    }

    // ---- failures

    private static void tossOfEachKind() {
        int[][] due = {{1, 1, 1, 101, 1, 208, -15, 1}, {9, 9, 9, 109, 9, 216, -15, 9}};
        int[] figures = {1, 9};
        PensGo x = new PensGo();
        for (int i = 0; i < 2; i++) {
            for (int kind = 0; kind < 8; kind++) {
                x.keep(0, 1, kind, figures[i]);
                due("toss of KIND " + kind, x.toss(0), due[i][kind]);
                due("and again", x.toss(0), due[i][kind]);
            }
        }
    }

    private static void tossOfFigure0() {
        PensGo x = new PensGo();
        for (int kind = 0; kind < 8; kind++) {
            x.keep(0, 1, kind, 0);
            due("FIGURE 0, KIND " + kind, x.toss(0), -15);
            due("it is there still", x.cost(0) >= 0 ? 1 : 0, 1);
        }
    }
}
