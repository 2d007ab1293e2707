/** The edges of offices read from bytes: every wrong byte, every early end, every bad number. */
public final class TextEdgeTests {
    private static final Checks CHECKS = new Checks();
    private static final String TEN = "p000;p111;p222;p333;p444;p555;p660;p771;p082;p193;";

    private TextEdgeTests() {
    }

    public static void main(String[] args) {
        noStatement();
        everyFirstByte();
        everyByteInEachStatement();
        everyEarlyEnd();
        pullOf1Or2Digits();
        lowestBitsOfBytes();
        aHundredBytes();
        penStatements();
        wayStatements();
        holdAndWalkStatements();
        pullStatements();
        moveStatements();
        hourStatements();
        lastPenIsNoMore();
        noRoom();
        theFirstFaultIsTold();
        kind1AheadOfKind2();
        eachOnWhatThoseAheadMade();
        withAFaultNothingComes();
        behindAFaultTheNextTextStartsAfresh();
        theRowStays();
        CHECKS.end();
    }

    private static void due(String call, long got, long want) {
        CHECKS.due(call, got, want);
    }

    /** On a new object the text answers want. */
    private static void reads(String text, int want) {
        due("office(" + text + ")", Checks.read(new PensGo(), text), want);
    }

    /** On an object made by that text the text answers want; a FAULT leaves all as it was. */
    private static void reads(String made, String text, int want) {
        PensGo x = Checks.made(made);
        due(made + " and office(" + text + ")", Checks.read(x, text), want);
        if (want < 0) {
            PensGo y = Checks.made(made);
            Checks.lay(y, 0, text);
            String unlike = State.unlike(State.of(y), State.of(x)).toString();
            due("by the FAULT of " + text + ": " + unlike, unlike.equals("[]") ? 0 : 1, 0);
        }
    }

    private static String times(String text, int n) {
        StringBuilder all = new StringBuilder();
        for (int i = 0; i < n; i++) {
            all.append(text);
        }
        return all.toString();
    }

    // ---- kind 1

    private static void noStatement() {
        reads("", -1000);
        reads(";", -1000);
        reads("\0", -1000);
        reads(times("\0", 100), -1000);
        reads("h;;", -1002);
    }

    private static void everyFirstByte() {
        for (int b = -128; b < 128; b++) {
            PensGo x = new PensGo();
            Checks.layRow(x, 0, 0, b);
            boolean letter = b > 0 && "pwskgmhu".indexOf(b) >= 0;
            due("a text of the byte " + b, x.office(0), letter ? -1001 : -1000);
            Checks.layRow(x, 0, 0, 'h', ';', b);
            due("h; and the byte " + b, x.office(0), letter ? -1003 : -1002);
        }
    }

    private static void everyByteInEachStatement() {
        String[] statements = {"p000;", "w011;", "s11;", "k11;", "g1;", "g11;", "m00;", "h;", "u;"};
        for (String ahead : new String[] {"", "h;", "p000;g12;"}) {
            for (String s : statements) {
                for (int i = 1; i < s.length(); i++) {
                    everyByteAt(ahead + s, ahead.length() + i);
                }
            }
        }
    }

    /** Every byte that can't stand there is told, whatever stands behind it. */
    private static void everyByteAt(String text, int i) {
        char good = text.charAt(i);
        boolean secondOfG = i >= 2 && text.charAt(i - 2) == 'g';
        for (int b = -128; b < 128; b++) {
            boolean digit = b >= '0' && b <= '9';
            if (b == good || digit && good != ';' || secondOfG && (digit || b == ';')) {
                continue;
            }
            PensGo x = new PensGo();
            Checks.lay(x, 0, text + "h;");
            x.put(0, i, b);
            due("byte " + b + " at " + i + " of " + text, x.office(0), -1000 - i);
        }
    }

    private static void everyEarlyEnd() {
        String[] statements = {"p000;", "w011;", "s11;", "k11;", "g1;", "g11;", "m00;", "h;", "u;"};
        for (String ahead : new String[] {"", "h;", TEN, times("h;", 40)}) {
            for (String s : statements) {
                for (int i = 1; i < s.length(); i++) {
                    reads(ahead + s.substring(0, i), -1000 - ahead.length() - i);
                }
            }
        }
    }

    private static void pullOf1Or2Digits() {
        reads("g;", -1001);
        reads("g1;", 1);
        reads("g12;", 1);
        reads("g123;", -1003);
        reads("g012;", -1003);
        reads("g1", -1002);
        reads("g12", -1003);
        reads("g1h;", -1002);
        reads("g12h;", -1003);
    }

    private static void lowestBitsOfBytes() {
        PensGo x = new PensGo();
        Checks.layRow(x, 0, 0, 'h' - 256, ';' + 65536, 'h' + 256, ';' - 65536);
        due("bytes by their lowest bits", x.office(0), 2);
        Checks.layRow(x, 0, 0, 'h', ';', 'h' + 128, ';');
        due("104 and 128 is another byte", x.office(0), -1002);
    }

    private static void aHundredBytes() {
        reads(times("h;", 50), 50);
        reads(times("h;", 49) + "hh", -1099);
        reads(times("h;", 49) + "p0", -1100);
        reads(times("h;", 48) + "p000", -1100);
        reads(times("h;", 48) + "p00;", -1099);
        reads(times("h;", 49) + "h", -1099);
        reads(times("g10;", 25), 25);
        reads(times("g100", 25), -1003);
        reads(times("p000;", 20), -2050);
        reads(times("p000;", 10) + times("u;", 25), -2070);
        reads(times("p000;", 10) + times("u;", 10), 20);
    }

    // ---- kind 2

    private static void penStatements() {
        for (int kind = 0; kind < 10; kind++) {
            reads("p" + kind + "00;", kind <= 7 ? 1 : -2000);
            reads("h;p" + kind + "95;", kind <= 7 ? 2 : -2002);
        }
        for (int figure = 0; figure < 10; figure++) {
            reads("p0" + figure + "0;", 1);
        }
        for (int place = 0; place < 10; place++) {
            reads("p00" + place + ";", place <= 5 ? 1 : -2000);
        }
        PensGo x = Checks.made("p795;");
        due("KIND 7", x.pen(0, 0), 7);
        due("FIGURE 9", x.pen(0, 1), 9);
        due("PLACE 5", x.pen(0, 2), 5);
    }

    private static void wayStatements() {
        for (int p = 0; p < 10; p++) {
            for (int q = 0; q < 10; q++) {
                boolean good = p <= 5 && q <= 5 && p != q;
                reads("w" + p + q + "5;", good ? 1 : -2000);
            }
            reads("w01" + p + ";", 1);
        }
        PensGo x = Checks.made("w059;w504;w050;");
        due("WAY 0 again", x.way(0, 5, 1), 0);
        due("WAY back", x.way(5, 0, 1), 4);
    }

    private static void holdAndWalkStatements() {
        for (int v = 0; v < 10; v++) {
            reads("s" + v + "9;", v <= 5 ? 1 : -2000);
            reads("s5" + v + ";", 1);
            reads("k" + v + "9;", v <= 5 ? 1 : -2000);
            reads("k5" + v + ";", v >= 1 ? 1 : -2000);
        }
        PensGo x = Checks.made("s09;s59;s50;k09;k59;k51;");
        due("HOLD of 0", x.set(0, 0, 0), 9);
        due("HOLD of 5", x.set(5, 0, 1), 0);
        due("WALK of 0", x.set(0, 1, 1), 9);
        due("WALK of 5", x.set(5, 1, 1), 1);
    }

    private static void pullStatements() {
        for (int v = 0; v < 100; v++) {
            PensGo x = new PensGo();
            String two = "g" + v / 10 + v % 10 + ";";
            due(two, Checks.read(x, two), v >= 1 ? 1 : -2000);
            due("PULL by " + two, x.set(0, 2, 7), v >= 1 ? v : 5);
            if (v < 10) {
                due("g" + v + ";", Checks.read(x, "g" + v + ";"), v >= 1 ? 1 : -2000);
                due("PULL by g" + v + ";", x.set(0, 2, 7), v >= 1 ? v : 7);
            }
        }
    }

    private static void moveStatements() {
        for (int v = 0; v < 10; v++) {
            reads("m" + v + "0;", -2000);
            reads("p000;p000;m" + v + "5;", v <= 1 ? 3 : -2010);
            reads(TEN + "m" + v + "0;", 11);
            reads("p000;m0" + v + ";", v <= 5 ? 2 : -2005);
        }
        PensGo x = Checks.made(TEN + "m00;m95;");
        due("to where it is", x.pen(0, 2), 0);
        due("the last", x.pen(9, 2), 5);
    }

    private static void hourStatements() {
        PensGo x = Checks.made("p000;w019;w109;");
        Worlds.passTo(x, 950);
        due("to 1000", Checks.read(x, times("h;", 50)), -2098);
        due("not to 999", x.count(1), 950);
        due("no PEN has gone", x.pen(0, 2), 0);
        due("to 999", Checks.read(x, times("h;", 49)), 49);
        due("999", x.count(1), 999);
        due("it is at 1 behind 999", x.pen(0, 2), 1);
        due("1000", Checks.read(x, "h;"), -2000);
        due("1000, later in the text", Checks.read(x, "m00;g7;h;"), -2007);
        due("it is at 1 still", x.pen(0, 2), 1);
        due("PULL is 5 still", x.set(0, 2, 5), 5);
    }

    private static void lastPenIsNoMore() {
        reads("u;", -2000);
        reads("p000;u;", 2);
        reads("p000;u;u;", -2007);
        reads(TEN + times("u;", 10), 20);
        reads(TEN + times("u;", 11), -2070);
        reads(TEN, times("u;", 10), 10);
        reads(TEN, times("u;", 11), -2020);
        PensGo x = Checks.made("p010;p121;p232;u;");
        due("two are left", x.count(0), 2);
        due("the last is the second", x.pen(1, 0) * 100 + x.pen(1, 1) * 10 + x.pen(1, 2), 121);
        due("no third", x.pen(2, 0), -1);
        due("the next is the third", Checks.read(x, "p345;"), 1);
        due("as told", x.pen(2, 0) * 100 + x.pen(2, 1) * 10 + x.pen(2, 2), 345);
    }

    private static void noRoom() {
        reads(TEN, 10);
        reads(TEN + "p000;", -2050);
        reads(TEN, "p000;", -2000);
        reads(TEN, "u;p000;", 2);
        reads(TEN, "u;p000;p000;", -2007);
        reads(TEN + "u;p795;m94;", 13);
    }

    private static void theFirstFaultIsTold() {
        reads("h;u;p900;", -2002);
        reads("p900;u;", -2000);
        reads("h;h;w115;w005;", -2004);
        reads("s59;k50;g0;", -2004);
    }

    private static void kind1AheadOfKind2() {
        reads("p900;x", -1005);
        reads("u;p", -1003);
        reads("g0;g", -1004);
        reads("w000;;", -1005);
        reads("m99;" + times("h;", 48), -2000);
        reads("m99;" + times("h;", 47) + "h", -1099);
    }

    private static void eachOnWhatThoseAheadMade() {
        reads("m00;p000;", -2000);
        reads("p000;m00;", 2);
        PensGo x = Checks.made("p000;w019;h;w109;s01;h;p000;g9;h;g8;h;k12;");
        due("goes, comes back, stays by PULL 9 at HOLD 1, goes by 8", x.pen(0, 2), 1);
        due("the second goes by 8", x.pen(1, 2), 1);
        due("four HOURS", x.count(1), 4);
        PensGo y = Checks.made("p000;w019;h;");
        due("the WAY ahead of it", y.pen(0, 2), 1);
        PensGo z = Checks.made("p000;h;w019;");
        due("the WAY behind it", z.pen(0, 2), 0);
    }

    private static void withAFaultNothingComes() {
        reads(TEN + "w014;s11;k22;g7;h;", "u;w019;s01;k09;g9;m05;h;p900;", -2024);
        reads("p000;w019;", "p011;w029;s03;k04;g5;m01;h;u;u;u;", -2031);
        reads("p000;w019;", "p011;w029;s03;k04;g5;m01;h;u;u", -1030);
        reads("w019;", "h;h;w015;g00;", -2009);
    }

    private static void behindAFaultTheNextTextStartsAfresh() {
        PensGo x = new PensGo();
        due("a pen, two taken", Checks.read(x, "p000;w019;g9;h;u;u;"), -2017);
        due("no pen to move", Checks.read(x, "m00;"), -2000);
        due("a pen, too early an end", Checks.read(x, "p000;h"), -1006);
        due("no pen to take", Checks.read(x, "u;"), -2000);
        due("one comes", Checks.read(x, "p000;h;"), 2);
        due("it is the first", x.count(0), 1);
        due("its HOUR is the first", x.count(1), 1);
        due("there is no WAY to go", x.pen(0, 2), 0);
        due("PULL at first", x.set(0, 2, 5), 5);
        due("a FAULT", Checks.read(x, "u;p111;p900;"), -2007);
        due("the pen is there", x.move(0, 3), 0);
        due("it goes on from where it was moved to", Checks.read(x, "w349;h;"), 2);
        due("to 4", x.pen(0, 2), 4);
    }

    private static void theRowStays() {
        PensGo x = new PensGo();
        Checks.lay(x, 7, "p000;");
        for (int i = 1; i <= 10; i++) {
            due("read again", x.office(7), 1);
            due("PENS", x.count(0), i);
        }
        due("an eleventh time", x.office(7), -2000);
        due("its letter", x.element(7, 0), 'p');
        due("its end", x.element(7, 4), ';');
        due("its size", x.put(7, 5, 0), -13);
    }
}
