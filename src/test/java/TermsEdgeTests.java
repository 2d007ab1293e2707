/** The edges of the document's first terms: places, draws, rules, worths, costs, hours, rows. */
public final class TermsEdgeTests {
    private static final Checks CHECKS = new Checks();

    private TermsEdgeTests() {
    }

    public static void main(String[] args) {
        allIsAtItsFirst();
        allWaysHoldsWalks();
        pensComeFrom0To9();
        allKindsAndFigures();
        drawIsWayLessHold0AtLeast();
        drawOfGoodIsTwice();
        drawOfFreeIsHalfCut();
        drawOfChewedIsLessFigure0AtLeast();
        drawOfChainedIs0();
        drawOfNamedIs10MoreAtItsPlace();
        drawOfEmptyIs0AboveHold4();
        drawOfHomedIs0AtItsPlace();
        drawToItselfIsWhatIsLeft();
        ruleGoesToTheGreatest();
        ruleOfSeveralTheLeast();
        ruleAsksForPull();
        ruleOfEachKind();
        worthAndCost();
        hoursTogetherAndOneByOne();
        hoursUpTo999();
        allPensGoAtOnce();
        movesToTheEnds();
        the512thCall();
        CHECKS.end();
    }

    private static void due(String call, long got, long want) {
        CHECKS.due(call, got, want);
    }

    // ---- a new object

    private static void allIsAtItsFirst() {
        PensGo x = new PensGo();
        for (int p = 0; p < 6; p++) {
            for (int q = 0; q < 6; q++) {
                due("WAY at first", p == q ? 0 : x.way(p, q, 9), 0);
            }
            due("HOLD at first", x.set(p, 0, 9), 0);
            due("WALK at first", x.set(p, 1, 9), 1);
        }
        due("PULL at first", x.set(5, 2, 99), 5);
        due("HOUR at first", x.hours(1), 1);
        for (int d = 0; d < 8; d++) {
            due("SHELF at first", x.toss(d), -11);
        }
        x.keep(0, 1, 0, 0);
        due("PENS from 0 on", x.comes(0, 0), 0);
        PensGo y = new PensGo();
        due("no PENS", y.count(0), 0);
        due("no HOUR", y.count(1), 0);
        due("no WORTH", y.count(2), 0);
        due("no WAY", y.count(3), 0);
        due("no PLACE with PENS", y.count(4), 0);
        due("no WAY is as good as another", y.sink(0) + y.sink(1), 0);
    }

    // ---- places, ways, holds, walks, pull, pens

    private static void allWaysHoldsWalks() {
        PensGo x = new PensGo();
        for (int p = 0; p < 6; p++) {
            for (int q = 0; q < 6; q++) {
                if (p != q) {
                    due("WAY in", x.way(p, q, (p * 6 + q) % 9 + 1), 0);
                }
            }
            due("HOLD in", x.set(p, 0, 9 - p), 0);
            due("WALK in", x.set(p, 1, p + 4), 1);
        }
        for (int p = 0; p < 6; p++) {
            for (int q = 0; q < 6; q++) {
                if (p != q) {
                    due("WAY out", x.way(p, q, 9), (p * 6 + q) % 9 + 1);
                }
            }
            due("HOLD out", x.set(p, 0, 0), 9 - p);
            due("WALK out", x.set(p, 1, 1), p + 4);
        }
        due("all WAYS 9", x.count(3), 270);
        x.way(5, 4, 0);
        due("one WAY less", x.count(3), 261);
        for (int p = 0; p < 6; p++) {
            due("PULL of any PLACE", x.set(p, 2, 10 * p + 10), p == 0 ? 5 : 10 * p);
        }
    }

    private static void pensComeFrom0To9() {
        PensGo x = new PensGo();
        for (int i = 0; i < 10; i++) {
            due("no PEN " + i + " yet", x.pen(i, 0), -1);
            x.keep(0, 1, i % 8, 9 - i);
            due("comes", x.comes(0, i % 6), i);
            due("PENS", x.count(0), i + 1);
        }
        due("an eleventh", x.comes(0, 0), -2);
        due("a PEN 10", x.pen(10, 0), -1);
        for (int i = 0; i < 10; i++) {
            due("KIND of " + i, x.pen(i, 0), i % 8);
            due("FIGURE of " + i, x.pen(i, 1), 9 - i);
            due("PLACE of " + i, x.pen(i, 2), i % 6);
        }
        due("all PLACES", x.count(4), 63);
    }

    private static void allKindsAndFigures() {
        for (int kind = 0; kind < 8; kind++) {
            PensGo x = new PensGo();
            for (int figure = 0; figure < 10; figure++) {
                due("keep", x.keep(0, 1, kind, figure), 0);
                due("comes", x.comes(0, 5), figure);
                due("KIND", x.pen(figure, 0), kind);
                due("FIGURE", x.pen(figure, 1), figure);
            }
        }
    }

    // ---- draws

    /** DRAW from 0 to 1 with that way and hold. */
    private static void drawn(int kind, int figure, int way, int hold, int want) {
        PensGo x = Checks.made("p" + kind + figure + "0;w01" + way + ";s0" + hold + ";");
        due("KIND " + kind + " FIGURE " + figure + " WAY " + way + " HOLD " + hold,
            x.draw(0, 1), want);
        int all = 0;
        for (int place = 0; place < 6; place++) {
            all += x.draw(0, place);
        }
        due("all DRAWS of it", all, 100);
        due("DRAW to where it is", x.pen(0, 5), x.draw(0, 0));
    }

    private static void drawIsWayLessHold0AtLeast() {
        drawn(0, 0, 0, 0, 0);
        drawn(0, 0, 1, 0, 1);
        drawn(0, 0, 9, 0, 9);
        drawn(0, 0, 9, 8, 1);
        drawn(0, 0, 9, 9, 0);
        drawn(0, 0, 8, 9, 0);
        drawn(0, 0, 0, 9, 0);
        drawn(0, 9, 9, 0, 9);
        PensGo x = Checks.made("p000;w019;s19;");
        due("HOLD of where it goes to is no matter", x.draw(0, 1), 9);
        due("nor is the WAY back", Checks.made("p000;w109;").draw(0, 1), 0);
    }

    private static void drawOfGoodIsTwice() {
        drawn(1, 0, 0, 0, 0);
        drawn(1, 0, 1, 0, 2);
        drawn(1, 0, 9, 0, 18);
        drawn(1, 0, 9, 8, 2);
        drawn(1, 0, 9, 9, 0);
        drawn(1, 0, 3, 9, 0);
        drawn(1, 9, 5, 2, 6);
    }

    private static void drawOfFreeIsHalfCut() {
        int[] half = {0, 0, 1, 1, 2, 2, 3, 3, 4, 4};
        for (int way = 0; way < 10; way++) {
            drawn(2, 0, way, 0, half[way]);
        }
        drawn(2, 9, 9, 6, 1);
        drawn(2, 9, 9, 8, 0);
        drawn(2, 9, 2, 9, 0);
    }

    private static void drawOfChewedIsLessFigure0AtLeast() {
        drawn(3, 0, 9, 0, 9);
        drawn(3, 8, 9, 0, 1);
        drawn(3, 9, 9, 0, 0);
        drawn(3, 9, 8, 0, 0);
        drawn(3, 9, 0, 0, 0);
        drawn(3, 3, 9, 5, 1);
        drawn(3, 4, 9, 5, 0);
        drawn(3, 5, 9, 5, 0);
        drawn(3, 0, 5, 9, 0);
        drawn(3, 1, 5, 9, 0);
    }

    private static void drawOfChainedIs0() {
        drawn(4, 0, 9, 0, 0);
        drawn(4, 9, 9, 9, 0);
        drawn(4, 1, 0, 0, 0);
    }

    private static void drawOfNamedIs10MoreAtItsPlace() {
        for (int figure = 0; figure < 10; figure++) {
            for (int q = 0; q < 6; q++) {
                int p = q == 2 ? 3 : 2;
                PensGo x = Checks.made("p5" + figure + p + ";w" + p + q + "4;");
                due("NAMED " + figure + " to " + q, x.draw(0, q), figure % 6 == q ? 18 : 8);
            }
        }
        drawn(5, 1, 9, 0, 28);
        drawn(5, 7, 9, 0, 28);
        drawn(5, 1, 0, 0, 10);
        drawn(5, 1, 9, 9, 10);
        drawn(5, 1, 0, 9, 10);
        drawn(5, 0, 9, 0, 18);
        drawn(5, 6, 9, 0, 18);
        drawn(5, 2, 9, 0, 18);
        due("to FIGURE modulo 6 without a way", Checks.made("p580;").draw(0, 2), 10);
    }

    private static void drawOfEmptyIs0AboveHold4() {
        drawn(6, 0, 9, 0, 4);
        drawn(6, 0, 9, 4, 2);
        drawn(6, 0, 9, 5, 0);
        drawn(6, 0, 9, 9, 0);
        drawn(6, 9, 1, 0, 0);
        drawn(2, 0, 9, 5, 2);
        PensGo x = Checks.made("p600;w019;s19;");
        due("HOLD of where it goes to is no matter", x.draw(0, 1), 4);
    }

    private static void drawOfHomedIs0AtItsPlace() {
        for (int figure = 0; figure < 10; figure++) {
            int home = figure % 6;
            int away = (home + 1) % 6;
            int other = (home + 2) % 6;
            PensGo x = Checks.made("p7" + figure + home + ";w" + home + away + "9;w" + away + home
                + "9;w" + away + other + "9;");
            due("HOMED " + figure + " at home", x.draw(0, away), 0);
            due("HOMED " + figure + " stays", x.draw(0, home), 100);
            x.move(0, away);
            due("HOMED " + figure + " to home", x.draw(0, home), 28);
            due("HOMED " + figure + " elsewhere", x.draw(0, other), 18);
            due("HOMED " + figure + " stays away", x.draw(0, away), 54);
        }
        drawn(7, 1, 0, 9, 10);
        drawn(7, 0, 9, 0, 0);
        drawn(7, 6, 9, 0, 0);
    }

    private static void drawToItselfIsWhatIsLeft() {
        PensGo x = Checks.made("p000;p100;p200;p300;p390;p400;p500;p510;p700;p710;"
            + "w019;w029;w039;w049;w059;");
        int[] left = {55, 10, 80, 55, 100, 100, 10, 0, 100, 0};
        for (int pen = 0; pen < 10; pen++) {
            due("left for " + pen, x.draw(pen, 0), left[pen]);
            due("left for " + pen + ", asked as a PEN", x.pen(pen, 5), left[pen]);
        }
        PensGo bare = Checks.made("p000;p500;p510;");
        due("no WAY", bare.draw(0, 0), 100);
        due("NAMED where it belongs", bare.draw(1, 0), 100);
        due("NAMED elsewhere", bare.draw(2, 0), 90);
    }

    // ---- rules

    private static void ruleGoesToTheGreatest() {
        PensGo x = Checks.made("p000;w015;w026;w039;w048;w057;");
        due("9 of five", x.pen(0, 4), 3);
        x.way(0, 5, 9);
        x.way(0, 3, 8);
        due("9 at the last", x.pen(0, 4), 5);
        x.way(0, 1, 9);
        x.way(0, 5, 8);
        due("9 at the first", x.pen(0, 4), 1);
        due("though it is likelier to stay", x.draw(0, 0) > x.draw(0, 1) ? 1 : 0, 1);
        PensGo last = Checks.made("p005;w508;w547;");
        due("from 5 to 0", last.pen(0, 4), 0);
        PensGo middle = Checks.made("p003;w328;w349;");
        due("from 3 to 4", middle.pen(0, 4), 4);
    }

    private static void ruleOfSeveralTheLeast() {
        PensGo x = Checks.made("p000;p005;p002;w029;w039;w059;w549;w539;w209;w219;w259;");
        due("2, 3, 5 alike", x.pen(0, 4), 2);
        due("3, 4 alike", x.pen(1, 4), 3);
        due("0, 1, 5 alike", x.pen(2, 4), 0);
        x.way(0, 2, 8);
        due("3, 5 alike", x.pen(0, 4), 3);
        due("0 and the named one alike", Checks.made("p541;w105;").pen(0, 4), 0);
        due("the named one and 5 alike", Checks.made("p541;w155;").pen(0, 4), 4);
    }

    private static void ruleAsksForPull() {
        PensGo x = Checks.made("p000;w015;");
        due("PULL 5 at first", x.pen(0, 4), 1);
        x.set(0, 2, 6);
        due("one more than is drawn", x.pen(0, 4), 0);
        x.set(0, 2, 4);
        due("one less than is drawn", x.pen(0, 4), 1);
        x.set(0, 2, 1);
        x.way(0, 1, 1);
        due("PULL 1, DRAW 1", x.pen(0, 4), 1);
        x.way(0, 1, 0);
        due("PULL 1, DRAW 0", x.pen(0, 4), 0);
        PensGo named = Checks.made("p510;w019;g28;");
        due("PULL 28, DRAW 28", named.pen(0, 4), 1);
        named.set(0, 2, 29);
        due("PULL 29, DRAW 28", named.pen(0, 4), 0);
        named.set(0, 2, 99);
        due("PULL 99", named.pen(0, 4), 0);
        due("it stays where it is", Checks.made("p004;w419;g10;").pen(0, 4), 4);
    }

    private static void ruleOfEachKind() {
        PensGo x = Checks.made("p000;p100;p200;p300;p310;p400;p500;p510;p600;p700;w025;");
        int[] to = {2, 2, 0, 2, 0, 0, 2, 1, 0, 0};
        for (int pen = 0; pen < 10; pen++) {
            due("by PULL 5, pen " + pen, x.pen(pen, 4), to[pen]);
        }
        x.set(0, 2, 2);
        int[] by2 = {2, 2, 2, 2, 2, 0, 2, 1, 2, 0};
        for (int pen = 0; pen < 10; pen++) {
            due("by PULL 2, pen " + pen, x.pen(pen, 4), by2[pen]);
        }
        x.way(0, 2, 9);
        x.set(0, 0, 5);
        due("FREE by HOLD 5", x.pen(2, 4), 2);
        due("EMPTY by HOLD 5", x.pen(8, 4), 0);
    }

    // ---- worths, costs

    private static void worthAndCost() {
        int[][] worths = {{2, 2, 1, 2, 9, 4, 0, 4}, {2, 4, 1, 2, 9, 6, 0, 7},
            {2, 20, 1, 2, 9, 22, 0, 31}};
        int[][] costs = {{3, 3, 0, 6, 11, 7, 1, 14}, {3, 4, 0, 6, 11, 8, 1, 16},
            {3, 12, 0, 6, 11, 16, 1, 32}};
        int[] figures = {0, 1, 9};
        for (int i = 0; i < 3; i++) {
            int all = 0;
            PensGo x = new PensGo();
            for (int kind = 0; kind < 8; kind++) {
                x.keep(kind, 1, kind, figures[i]);
                x.comes(kind, 0);
                due("COST of " + kind + ", " + figures[i], x.cost(kind), costs[i][kind]);
                due("WORTH of " + kind + ", " + figures[i], x.pen(kind, 3), worths[i][kind]);
                all += worths[i][kind];
            }
            due("all WORTHS", x.count(2), all);
        }
        PensGo full = Checks.made("p795;p795;p795;p795;p795;p795;p795;p795;p795;p795;");
        due("the most WORTHS", full.count(2), 310);
    }

    // ---- hours

    private static void hoursTogetherAndOneByOne() {
        String office = "p000;p110;p512;p593;p205;w019;w129;w209;w325;w538;w507;s11;s31;g4;";
        for (int n = 1; n <= 99; n += 14) {
            PensGo together = Checks.made(office);
            PensGo single = Checks.made(office);
            due("hours(n)", together.hours(n), n);
            for (int i = 1; i <= n; i++) {
                due("hours(1)", single.hours(1), i);
            }
            for (int pen = 0; pen < 5; pen++) {
                due("PLACE behind " + n, together.pen(pen, 2), single.pen(pen, 2));
            }
        }
    }

    private static void hoursUpTo999() {
        PensGo x = new PensGo();
        Worlds.passTo(x, 900);
        due("99 to 999", x.hours(99), 999);
        due("one more", x.hours(1), -2);
        PensGo y = new PensGo();
        Worlds.passTo(y, 901);
        due("99 to 1000", y.hours(99), -2);
        due("still 901", y.count(1), 901);
        due("98 to 999", y.hours(98), 999);
        PensGo z = Checks.made("p000;w019;w109;");
        Worlds.passTo(z, 998);
        due("2 to 1000", z.hours(2), -2);
        due("no PEN has gone", z.pen(0, 2), 0);
        due("1 to 999", z.hours(1), 999);
        due("it has gone", z.pen(0, 2), 1);
        due("1 to 1000", z.hours(1), -2);
        due("it has not gone", z.pen(0, 2), 1);
    }

    private static void allPensGoAtOnce() {
        PensGo x = Checks.made("p000;p001;p002;p003;p004;p005;w019;w129;w239;w349;w459;w509;");
        due("an HOUR", x.hours(1), 1);
        for (int pen = 0; pen < 6; pen++) {
            due("one on", x.pen(pen, 2), (pen + 1) % 6);
        }
        due("97 more", x.hours(97), 98);
        for (int pen = 0; pen < 6; pen++) {
            due("98 on", x.pen(pen, 2), (pen + 98) % 6);
        }
    }

    private static void movesToTheEnds() {
        PensGo x = Worlds.full();
        due("the first", x.move(0, 5), 0);
        due("the last", x.move(9, 0), 3);
        due("the first back", x.move(0, 0), 5);
        due("to where it is", x.move(9, 0), 0);
        due("to where it is, again", x.move(9, 0), 0);
        due("the last is there", x.pen(9, 2), 0);
    }

    private static void the512thCall() {
        PensGo x = new PensGo();
        x.keep(0, 1, 1, 9);
        due("comes", x.comes(0, 0), 0);
        for (int call = 3; call <= 511; call++) {
            int to = call % 6;
            int from = (call + 5) % 6;
            due("moved to and fro", x.move(0, to), call == 3 ? 0 : from);
        }
        due("the 512th call", x.pen(0, 2), 511 % 6);
    }
}
