/** Promises 1 to 9: a new object, texts of offices, pens, places, ways, hours, draws. */
public final class OfficeTests {
    private static final Checks CHECKS = new Checks();

    private OfficeTests() {
    }

    public static void main(String[] args) {
        promise1NewObject();
        promise2Statements();
        promise2FormFaults();
        promise2SenseFaults();
        promise2Refusals();
        promise3Pen();
        promise4Comes();
        promise5Move();
        promise6Way();
        promise7Set();
        promise8Hours();
        promise9Draw();
        CHECKS.end();
    }

    private static void due(String call, long got, long want) {
        CHECKS.due(call, got, want);
    }

    private static void promise1NewObject() {
        PensGo x = new PensGo();
        for (int what = 0; what <= 4; what++) {
            due("new count(" + what + ")", x.count(what), 0);
        }
        due("new pen(0, 0)", x.pen(0, 0), -1);
        due("new restore()", x.restore(), -3);
        for (int place = 0; place < 6; place++) {
            due("new HOLD of " + place, x.set(place, 0, 0), 0);
            due("new WALK of " + place, x.set(place, 1, 1), 1);
        }
        due("new PULL", x.set(0, 2, 5), 5);
        for (int d = 0; d < 8; d++) {
            due("new shelf " + d, x.cost(d), -11);
        }
        due("no static state", Checks.made("p000;").count(0), 1);
        due("another object", new PensGo().count(0), 0);
    }

    private static void promise2Statements() {
        PensGo x = new PensGo();
        due("all statements", Checks.read(x, "p010;p795;w019;s33;k44;g7;m05;h;p222;u;"), 10);
        due("pens", x.count(0), 2);
        due("first is at 5", x.pen(0, 2), 5);
        due("HOMED 9", x.pen(1, 0) * 10 + x.pen(1, 1), 79);
        due("way", x.way(0, 1, 0), 9);
        due("hold", x.set(3, 0, 0), 3);
        due("walk", x.set(4, 1, 1), 4);
        due("pull", x.set(0, 2, 5), 7);
        due("hour", x.count(1), 1);
        due("it comes to what is there", Checks.read(x, "p100;"), 1);
        due("now three", x.count(0), 3);
        due("hour goes on", x.count(1), 1);
        due("text stays", x.office(0), 1);
        due("now four", x.count(0), 4);
        due("g of two digits", Checks.read(x, "g99;"), 1);
        due("pull 99", x.set(0, 2, 5), 99);
        due("g with a 0 ahead", Checks.read(x, "g05;"), 1);
        due("pull 5", x.set(0, 2, 10), 5);
        due("an hour is gone as a rule", Checks.read(x, "p000;w019;g9;h;g8;s01;h;m40;g9;h;"), 10);
        due("stays at 1, moved, held", x.pen(4, 2), 0);
        due("three hours more", x.count(1), 4);
    }

    private static void promise2FormFaults() {
        String[] texts = {"", ";", "x;", "p", "p00", "p000", "p0000;", "p00;", "pa00;", "p000;;",
            "h;u1;", "g;", "g123;", "g1", "g12", "g1a;", "w01;", "s0;", "k0;", "m0;", "h", "h;p0",
            "h1;", "P000;", "p000,", "s000;", "k/1;", "k:1;", "p800;x", "h;\u00ff;", "h; ", "w012"};
        int[] places = {0, 0, 0, 1, 3, 4, 4, 3, 1, 5,
            3, 1, 3, 2, 3, 2, 3, 2, 2, 2, 1, 4,
            1, 0, 4, 3, 1, 1, 5, 2, 2, 4};
        PensGo x = new PensGo();
        for (int i = 0; i < texts.length; i++) {
            due("office(" + texts[i] + ")", Checks.read(x, texts[i]), -1000 - places[i]);
            due("nothing came by " + texts[i], x.count(0) + x.count(1), 0);
            x = new PensGo();
        }
        StringBuilder hundred = new StringBuilder();
        for (int i = 0; i < 50; i++) {
            hundred.append("h;");
        }
        due("a hundred bytes", Checks.read(x, hundred.toString()), 50);
        hundred.setCharAt(99, 'h');
        due("its last byte", Checks.read(x, hundred.toString()), -1099);
        due("still hour 50", x.count(1), 50);
        hundred.setLength(99);
        due("too early by one", Checks.read(x, hundred.toString()), -1099);
    }

    private static void promise2SenseFaults() {
        String[] texts = {"p800;", "p900;", "p006;", "w011;w601;", "w061;", "w111;", "s60;", "k60;",
            "k00;", "g0;", "g00;", "m00;", "h;m01;", "u;", "p000;u;u;", "p000;m06;", "p000;m10;",
            "p000;u;m00;", "w019;s09;p000;k90;h;"};
        int[] places = {0, 0, 0, 5, 0, 0, 0, 0,
            0, 0, 0, 0, 2, 0, 7, 5, 5,
            7, 14};
        for (int i = 0; i < texts.length; i++) {
            PensGo x = new PensGo();
            due("office(" + texts[i] + ")", Checks.read(x, texts[i]), -2000 - places[i]);
            due("nothing came by " + texts[i], x.count(0) + x.count(1) + x.count(3), 0);
            due("nor a hold", x.set(0, 0, 0), 0);
        }
        PensGo x = Checks.made("p000;p000;p000;p000;p000;p000;p000;p000;p000;");
        due("no room for two", Checks.read(x, "p000;p000;"), -2005);
        due("nine as before", x.count(0), 9);
        due("room for one", Checks.read(x, "p000;"), 1);
        due("no room", Checks.read(x, "p000;"), -2000);
        due("room behind u", Checks.read(x, "u;p005;"), 2);
        due("the tenth", x.pen(9, 2), 5);
        for (int i = 0; i < 10; i++) {
            x.hours(99);
        }
        due("hour 999", Checks.read(x, "h;h;h;h;h;h;h;h;h;"), 9);
        due("hour 1000", Checks.read(x, "h;"), -2000);
        due("still 999", x.count(1), 999);
        due("kind 1 ahead of kind 2", Checks.read(x, "p900;h;p"), -1008);
    }

    private static void promise2Refusals() {
        PensGo x = new PensGo();
        due("office(-1)", x.office(-1), -1);
        due("office(8)", x.office(8), -1);
        due("office of nothing", x.office(7), -11);
        x.keep(7, 1, 0, 0);
        due("office of a pen", x.office(7), -12);
        Checks.layRow(x, 7, 1, 'h', ';');
        due("office of shorts", x.office(7), -12);
        Checks.layRow(x, 7, 2, 'h', ';');
        due("office of ints", x.office(7), -12);
        Checks.layRow(x, 7, 0, 'h' + 256, ';' - 512);
        due("office of lowest bits", x.office(7), 1);
        Checks.layRow(x, 7, 0, 'h', ';', -1, ';');
        due("a byte below 0", x.office(7), -1002);
    }

    private static void promise3Pen() {
        PensGo x = Checks.made("w019;w029;w035;s22;p030;p130;p230;p330;p430;p530;p630;p730;");
        int[][] due = {
            {0, 3, 0, 2, 1, 77}, {1, 3, 0, 8, 1, 54}, {2, 3, 0, 1, 0, 90}, {3, 3, 0, 2, 1, 86},
            {4, 3, 0, 9, 0, 100}, {5, 3, 0, 10, 3, 44}, {6, 3, 0, 0, 0, 90}, {7, 3, 0, 13, 3, 44}};
        for (int pen = 0; pen < 8; pen++) {
            for (int what = 0; what < 6; what++) {
                due("pen(" + pen + ", " + what + ")", x.pen(pen, what), due[pen][what]);
            }
        }
        x.set(0, 2, 9);
        due("as much as PULL", x.pen(0, 4), 1);
        x.set(0, 2, 10);
        due("less than PULL", x.pen(0, 4), 0);
        x.way(0, 2, 0);
        x.way(0, 3, 9);
        x.set(0, 2, 1);
        due("the least of several", x.pen(0, 4), 1);
        PensGo y = Checks.made("p004;w408;w439;p104;");
        due("from 4 to 3", y.pen(0, 4), 3);
        due("83 stay at 4", y.pen(0, 5), 83);
        due("66 of GOOD ones", y.pen(1, 5), 66);
        due("pen(-1, 0)", x.pen(-1, 0), -1);
        due("pen(8, 0)", x.pen(8, 0), -1);
        due("pen(0, 6)", x.pen(0, 6), -1);
        due("pen(0, -1)", x.pen(0, -1), -1);
    }

    private static void promise4Comes() {
        PensGo x = new PensGo();
        x.keep(0, 1, 5, 7);
        for (int i = 0; i < 10; i++) {
            due("comes as " + i, x.comes(0, i % 6), i);
        }
        due("NAMED 7 at 3", x.pen(9, 0) * 100 + x.pen(9, 1) * 10 + x.pen(9, 2), 573);
        due("it stays on the shelf", x.cost(0), 14);
        due("no room", x.comes(0, 0), -2);
        due("-11 ahead of -2", x.comes(1, 0), -11);
        x.row(1, 0, 1);
        due("-12 ahead of -2", x.comes(1, 0), -12);
        due("no such place", x.comes(1, 6), -1);
        due("no such place", x.comes(2, -1), -1);
        due("no such shelf", x.comes(8, 0), -1);
        due("no such shelf", x.comes(-1, 0), -1);
        due("still ten", x.count(0), 10);
    }

    private static void promise5Move() {
        PensGo x = Checks.made("p000;p105;");
        due("move(1, 2)", x.move(1, 2), 5);
        due("move(1, 2) again", x.move(1, 2), 2);
        due("it is there", x.pen(1, 2), 2);
        due("the other isn't", x.pen(0, 2), 0);
        due("move(2, 0)", x.move(2, 0), -1);
        due("move(-1, 0)", x.move(-1, 0), -1);
        due("move(0, 6)", x.move(0, 6), -1);
        due("move(0, -1)", x.move(0, -1), -1);
        due("not moved", x.pen(0, 2), 0);
    }

    private static void promise6Way() {
        PensGo x = new PensGo();
        due("way(0, 5, 9)", x.way(0, 5, 9), 0);
        due("way(5, 0, 4)", x.way(5, 0, 4), 0);
        due("way(0, 5, 0)", x.way(0, 5, 0), 9);
        due("way(5, 0, 0)", x.way(5, 0, 0), 4);
        due("way(3, 3, 1)", x.way(3, 3, 1), -1);
        due("way(6, 0, 1)", x.way(6, 0, 1), -1);
        due("way(0, 6, 1)", x.way(0, 6, 1), -1);
        due("way(-1, 0, 1)", x.way(-1, 0, 1), -1);
        due("way(0, -1, 1)", x.way(0, -1, 1), -1);
        due("way(0, 1, 10)", x.way(0, 1, 10), -1);
        due("way(0, 1, -1)", x.way(0, 1, -1), -1);
        due("nothing is changed", x.count(3), 0);
    }

    private static void promise7Set() {
        PensGo x = new PensGo();
        due("HOLD 9", x.set(5, 0, 9), 0);
        due("HOLD 0", x.set(5, 0, 0), 9);
        due("HOLD 10", x.set(5, 0, 10), -1);
        due("HOLD -1", x.set(5, 0, -1), -1);
        due("HOLD of another", x.set(4, 0, 1), 0);
        due("WALK 9", x.set(0, 1, 9), 1);
        due("WALK 1", x.set(0, 1, 1), 9);
        due("WALK 0", x.set(0, 1, 0), -1);
        due("WALK 10", x.set(0, 1, 10), -1);
        due("PULL 99", x.set(0, 2, 99), 5);
        due("PULL 1, of another place", x.set(5, 2, 1), 99);
        due("PULL 0", x.set(0, 2, 0), -1);
        due("PULL 100", x.set(0, 2, 100), -1);
        due("PULL still 1", x.set(0, 2, 5), 1);
        due("no such place", x.set(6, 0, 1), -1);
        due("no such place", x.set(-1, 1, 1), -1);
        due("no such place", x.set(6, 2, 1), -1);
        due("no such what", x.set(0, 3, 1), -1);
        due("no such what", x.set(0, -1, 1), -1);
    }

    private static void promise8Hours() {
        PensGo x = Checks.made("p000;p000;m12;w019;w129;w208;");
        due("hours(1)", x.hours(1), 1);
        due("0 to 1", x.pen(0, 2), 1);
        due("2 to 0", x.pen(1, 2), 0);
        due("hours(4)", x.hours(4), 5);
        due("five on from 0", x.pen(0, 2), 2);
        due("five on from 2", x.pen(1, 2), 1);
        due("hours(0)", x.hours(0), -1);
        due("hours(100)", x.hours(100), -1);
        due("hours(-1)", x.hours(-1), -1);
        for (int i = 1; i <= 10; i++) {
            due("hours(99)", x.hours(99), 5 + 99 * i);
        }
        due("above 999", x.hours(5), -2);
        due("no hour has gone", x.count(1), 995);
        due("nor a pen", x.pen(0, 2), 2);
        due("999", x.hours(4), 999);
        due("hours(1) above 999", x.hours(1), -2);
        due("hours(0) above 999", x.hours(0), -1);
    }

    private static void promise9Draw() {
        PensGo x = Checks.made("w019;w027;w031;s02;p040;p140;p240;p340;p440;p540;p640;p740;p700;");
        int[][] due = {
            {88, 7, 5, 0, 0, 0}, {76, 14, 10, 0, 0, 0}, {95, 3, 2, 0, 0, 0}, {96, 3, 1, 0, 0, 0},
            {100, 0, 0, 0, 0, 0}, {66, 14, 10, 0, 10, 0}, {95, 3, 2, 0, 0, 0},
            {66, 14, 10, 0, 10, 0}, {100, 0, 0, 0, 0, 0}};
        for (int pen = 0; pen < due.length; pen++) {
            for (int place = 0; place < 6; place++) {
                due("draw(" + pen + ", " + place + ")", x.draw(pen, place), due[pen][place]);
            }
        }
        x.set(0, 0, 4);
        due("EMPTY at HOLD 4", x.draw(6, 1), 2);
        x.set(0, 0, 5);
        due("EMPTY at HOLD 5", x.draw(6, 1), 0);
        due("FREE at HOLD 5", x.draw(2, 1), 2);
        due("draw(9, 0)", x.draw(9, 0), -1);
        due("draw(-1, 0)", x.draw(-1, 0), -1);
        due("draw(0, 6)", x.draw(0, 6), -1);
        due("draw(0, -1)", x.draw(0, -1), -1);
        PensGo y = Checks.made("p580;p782;p760;w029;w019;w039;w049;w059;");
        due("NAMED goes surely", y.draw(0, 0), 0);
        due("FIGURE 8 is place 2", y.draw(0, 2), 28);
        due("HOMED 8 at 2", y.draw(1, 2), 100);
        due("HOMED 6 at 0", y.draw(2, 1), 0);
    }
}
