/** The edges of promises 10 to 19: hours 0 and the last, none and ten pens, nothing and surely. */
public final class ChanceEdgeTests {
    private static final Checks CHECKS = new Checks();
    private static final long WHOLE_8 = 10000000000000000L;
    private static final long STAYS_8 = 9227446944279201L;
    private static final String TO_ALL = "w019;w029;w039;w049;w059;";
    private static final String CHAIN = "w019;w129;w239;w349;w459;";

    private ChanceEdgeTests() {
    }

    public static void main(String[] args) {
        oddsBehindNoHour();
        oddsBehind8Hours();
        oddsInLeastTerms();
        meanOfNoneAndOfTen();
        meanInLeastTerms();
        staysBehindNoHour();
        staysBehind8Hours();
        staysIsNotToComeBack();
        canBehindNoHourAnd20();
        canByDrawAboveNothing();
        canNotStayWhereNoneIsLeft();
        whoseOfNoneAndOfTen();
        whoseFromWhichHourOn();
        sinkAndSourceOfSeveral();
        heapOfNoneAndOfTen();
        heapBehindNoHourAnd50();
        heapOfSeveralTheLeast();
        buyNone();
        buy99();
        buyExactlyEnough();
        buyWhereNoneCanCome();
        layBehindNoHour();
        layOfSeveralTheLeast();
        layWhereNoneIsLikely();
        bestKindBehindNoHour();
        bestKindOfSeveralTheLeast();
        CHECKS.end();
    }

    private static void due(String call, long got, long want) {
        CHECKS.due(call, got, want);
    }

    private static void odds(PensGo x, int pen, int place, int n, long above, long below) {
        String call = "odds(" + pen + ", " + place + ", " + n + ", ";
        due(call + "0)", x.odds(pen, place, n, 0), above);
        due(call + "1)", x.odds(pen, place, n, 1), below);
    }

    private static void mean(PensGo x, int place, int n, long above, long below) {
        due("mean(" + place + ", " + n + ", 0)", x.mean(place, n, 0), above);
        due("mean(" + place + ", " + n + ", 1)", x.mean(place, n, 1), below);
    }

    private static void stays(PensGo x, int pen, int n, long above, long below) {
        due("stays(" + pen + ", " + n + ", 0)", x.stays(pen, n, 0), above);
        due("stays(" + pen + ", " + n + ", 1)", x.stays(pen, n, 1), below);
    }

    // ---- odds

    private static void oddsBehindNoHour() {
        PensGo x = Checks.made("p510;p195;" + TO_ALL);
        for (int place = 0; place < 6; place++) {
            odds(x, 0, place, 0, place == 0 ? 1 : 0, 1);
            odds(x, 1, place, 0, place == 5 ? 1 : 0, 1);
        }
    }

    private static void oddsBehind8Hours() {
        PensGo x = Checks.made("p000;p400;p005;w011;");
        odds(x, 0, 0, 8, STAYS_8, WHOLE_8);
        odds(x, 0, 1, 8, WHOLE_8 - STAYS_8, WHOLE_8);
        odds(x, 0, 5, 8, 0, 1);
        odds(x, 1, 0, 8, 1, 1);
        odds(x, 2, 5, 8, 1, 1);
        odds(x, 2, 0, 8, 0, 1);
        PensGo ten = Checks.made("p400;p400;p400;p400;p400;p400;p400;p400;p400;p005;w501;");
        odds(ten, 9, 5, 8, STAYS_8, WHOLE_8);
        odds(ten, 9, 0, 8, WHOLE_8 - STAYS_8, WHOLE_8);
    }

    private static void oddsInLeastTerms() {
        PensGo half = Checks.made("p100;w019;w029;w037;");
        odds(half, 0, 0, 1, 1, 2);
        odds(half, 0, 0, 2, 1, 4);
        odds(half, 0, 0, 8, 1, 256);
        odds(half, 0, 3, 1, 7, 50);
        PensGo away = Checks.made("p510;" + TO_ALL);
        odds(away, 0, 0, 1, 0, 1);
        odds(away, 0, 1, 1, 7, 25);
        odds(away, 0, 5, 1, 9, 50);
        // To 1 at once by 28 and there surely, or to one of four by 18 and from there by 10.
        odds(away, 0, 1, 2, 44, 125);
        odds(away, 0, 0, 8, 0, 1);
    }

    // ---- mean

    private static void meanOfNoneAndOfTen() {
        for (int place = 0; place < 6; place++) {
            mean(new PensGo(), place, 0, 0, 1);
            mean(new PensGo(), place, 8, 0, 1);
            mean(Worlds.chained(10, 5), place, 0, place == 5 ? 10 : 0, 1);
            mean(Worlds.chained(10, 5), place, 8, place == 5 ? 10 : 0, 1);
        }
        PensGo x = Checks.made("p000;p000;p000;p000;p000;p000;p000;p000;p000;p000;w011;");
        mean(x, 0, 8, STAYS_8, WHOLE_8 / 10);
        mean(x, 1, 8, WHOLE_8 - STAYS_8, WHOLE_8 / 10);
        mean(x, 0, 1, 99, 10);
        mean(x, 1, 1, 1, 10);
    }

    private static void meanInLeastTerms() {
        PensGo x = Checks.made("p100;p400;w019;w029;w037;");
        mean(x, 0, 1, 3, 2);
        Checks.read(x, "u;p100;");
        mean(x, 0, 1, 1, 1);
        mean(x, 0, 8, 1, 128);
        x.move(0, 5);
        mean(x, 5, 8, 1, 1);
        mean(x, 0, 8, 1, 256);
    }

    // ---- stays

    private static void staysBehindNoHour() {
        PensGo x = Checks.made("p510;p000;p400;" + TO_ALL);
        for (int pen = 0; pen < 3; pen++) {
            stays(x, pen, 0, 1, 1);
        }
        due("though it can't stay", x.draw(0, 0), 0);
        stays(x, 0, 1, 0, 1);
        stays(x, 0, 8, 0, 1);
    }

    private static void staysBehind8Hours() {
        PensGo x = Checks.made("p000;p400;p100;w011;");
        stays(x, 0, 1, 99, 100);
        stays(x, 0, 8, STAYS_8, WHOLE_8);
        stays(x, 1, 8, 1, 1);
        stays(x, 2, 1, 49, 50);
        PensGo half = Checks.made("p100;w019;w029;w037;");
        stays(half, 0, 8, 1, 256);
    }

    private static void staysIsNotToComeBack() {
        PensGo x = Checks.made("p000;w019;w109;");
        stays(x, 0, 2, 8281, 10000);
        odds(x, 0, 0, 2, 4181, 5000);
    }

    // ---- can, whose

    private static void canBehindNoHourAnd20() {
        PensGo x = Checks.made("p000;p005;" + CHAIN);
        int bits = 1;
        for (int n = 0; n <= 20; n++) {
            due("a place more each hour, " + n, x.can(0, n), bits);
            due("no way from the last", x.can(1, n), 32);
            bits |= n < 5 ? 2 << n : 0;
        }
    }

    private static void canByDrawAboveNothing() {
        due("WAY 0", Checks.made("p000;").can(0, 20), 1);
        due("WAY 1", Checks.made("p000;w011;").can(0, 20), 3);
        due("HOLD as WAY", Checks.made("p000;w013;s03;").can(0, 20), 1);
        due("HOLD one less", Checks.made("p000;w013;s02;").can(0, 20), 3);
        due("FREE, WAY 1", Checks.made("p200;w011;").can(0, 20), 1);
        due("FREE, WAY 2", Checks.made("p200;w012;").can(0, 20), 3);
        due("CHEWED, FIGURE as WAY", Checks.made("p330;w013;").can(0, 20), 1);
        due("CHEWED, FIGURE one less", Checks.made("p320;w013;").can(0, 20), 3);
        due("CHAINED", Checks.made("p400;w019;").can(0, 20), 1);
        due("NAMED, no WAY", Checks.made("p540;").can(0, 20), 17);
        due("EMPTY, HOLD 4", Checks.made("p600;w019;s04;").can(0, 20), 3);
        due("EMPTY, HOLD 5", Checks.made("p600;w019;s05;").can(0, 20), 1);
        due("HOMED at home", Checks.made("p700;w019;").can(0, 20), 1);
        due("HOMED goes home and stays", Checks.made("p745;w459;w509;").can(0, 20), 49);
    }

    private static void canNotStayWhereNoneIsLeft() {
        PensGo x = Checks.made("p510;" + TO_ALL);
        due("now", x.can(0, 0), 1);
        due("gone", x.can(0, 1), 62);
        due("gone for ever", x.can(0, 20), 62);
        x.way(1, 0, 1);
        due("no way back in one hour", x.can(0, 1), 62);
        due("back in two", x.can(0, 2), 63);
    }

    private static void whoseOfNoneAndOfTen() {
        for (int place = 0; place < 6; place++) {
            due("of none", new PensGo().whose(place, 0), 0);
            due("of none", new PensGo().whose(place, 20), 0);
            due("of ten", Worlds.chained(10, 5).whose(place, 0), place == 5 ? 1023 : 0);
            due("of ten", Worlds.chained(10, 5).whose(place, 20), place == 5 ? 1023 : 0);
        }
        PensGo x = Worlds.chained(10, 0);
        x.move(9, 5);
        due("the tenth", x.whose(5, 20), 512);
        due("the others", x.whose(0, 20), 511);
    }

    private static void whoseFromWhichHourOn() {
        PensGo x = Checks.made("p000;p003;p400;p005;" + CHAIN);
        int[] at5 = {8, 8, 10, 10, 10, 11, 11};
        for (int n = 0; n < at5.length; n++) {
            due("at 5 behind " + n, x.whose(5, n), at5[n]);
        }
        due("at 5 behind 20", x.whose(5, 20), 11);
        due("at 0 behind 20", x.whose(0, 20), 5);
    }

    // ---- sink, source, heap

    private static void sinkAndSourceOfSeveral() {
        PensGo x = new PensGo();
        for (int p = 0; p < 5; p++) {
            x.way(p, 5, 9);
        }
        due("all to 5", x.sink(0), 5);
        due("five alike", x.sink(1), 0);
        PensGo y = Checks.made(TO_ALL);
        due("five alike", y.sink(0), 1);
        due("all from 0", y.sink(1), 0);
        y.way(1, 0, 1);
        due("one less at 1", y.sink(0), 2);
        PensGo back = Checks.made("w459;w549;");
        due("there and back alike", back.sink(0), 0);
        due("there and back alike", back.sink(1), 0);
        back.way(5, 4, 8);
        due("one more to 5", back.sink(0), 5);
        due("one more from 4", back.sink(1), 4);
        PensGo below = Checks.made("w018;w107;w238;w327;w457;w548;s09;s29;");
        due("1, 3, 4 alike, HOLD is no matter", below.sink(0), 1);
        due("0, 2, 5 alike", below.sink(1), 0);
    }

    private static void heapOfNoneAndOfTen() {
        for (int n = 0; n <= 50; n += 50) {
            due("of none", new PensGo().heap(n, 0), 0);
            due("of none", new PensGo().heap(n, 1), 0);
            due("of ten", Worlds.chained(10, 5).heap(n, 0), 5);
            due("of ten", Worlds.chained(10, 5).heap(n, 1), 10);
        }
    }

    private static void heapBehindNoHourAnd50() {
        PensGo x = Checks.made("p000;p000;w019;w109;");
        for (int n = 0; n <= 50; n++) {
            due("to and fro, " + n, x.heap(n, 0), n % 2);
            due("both, " + n, x.heap(n, 1), 2);
        }
        PensGo chain = Checks.made("p000;p001;p003;p405;w019;w129;w239;w349;w459;g10;");
        due("by PULL 10 none goes", chain.heap(50, 1), 1);
        chain.set(0, 2, 9);
        due("one goes as another comes", chain.heap(1, 1), 1);
        due("all but one hour", chain.heap(2, 1), 2);
        due("all", chain.heap(5, 0) * 10 + chain.heap(5, 1), 54);
    }

    private static void heapOfSeveralTheLeast() {
        PensGo x = Checks.made("p405;p404;p403;p402;p401;p400;");
        due("six alike", x.heap(50, 0), 0);
        due("one each", x.heap(50, 1), 1);
        Checks.read(x, "p405;p404;");
        due("4 and 5 alike", x.heap(0, 0), 4);
        due("two each", x.heap(0, 1), 2);
        Checks.read(x, "p405;");
        due("5 has three", x.heap(0, 0) * 10 + x.heap(0, 1), 53);
    }

    // ---- to buy

    private static void buyNone() {
        PensGo x = Worlds.chained(10, 0);
        due("ten are there", x.buy(0, 0, 0, 0, 0, 10), 0);
        due("ten stay", x.buy(4, 0, 0, 0, 8, 10), 0);
        due("none needs to come", x.buy(0, 0, 5, 0, 8, 10), 0);
        due("one", x.buy(4, 0, 0, 0, 8, 11), 1);
        due("89", x.buy(4, 0, 0, 0, 8, 99), 89);
    }

    private static void buy99() {
        PensGo x = Checks.made("w011;");
        due("99 to 99", x.buy(4, 0, 0, 0, 8, 99), 99);
        due("98 to 98", x.buy(4, 0, 0, 0, 8, 98), 98);
        due("99 by 99 hundredths are 9801", x.buy(0, 0, 0, 0, 1, 98), 99);
        due("that is less than 9900", x.buy(0, 0, 0, 0, 1, 99), -4);
        due("98.6 to 91", x.buy(0, 0, 0, 0, 8, 91), 99);
        due("99.7 to 92", x.buy(0, 0, 0, 0, 8, 92), -4);
        due("HOMED 9 at home", x.buy(7, 9, 3, 3, 8, 99), 99);
        PensGo one = Checks.made("p400;w011;");
        due("98 to 99 with one there", one.buy(4, 0, 0, 0, 8, 99), 98);
        due("99 hundredths a pen and one there", one.buy(0, 0, 0, 0, 1, 99), 99);
    }

    private static void buyExactlyEnough() {
        PensGo x = Checks.made("w019;w029;w037;");
        due("two halves", x.buy(1, 0, 0, 0, 1, 1), 2);
        due("98 halves", x.buy(1, 0, 0, 0, 1, 49), 98);
        due("a hundred halves", x.buy(1, 0, 0, 0, 1, 50), -4);
        due("a half at 3 hours is an eighth", x.buy(1, 0, 0, 0, 3, 12), 96);
        due("104 eighths", x.buy(1, 0, 0, 0, 3, 13), -4);
        due("56 by 18", x.buy(1, 0, 0, 1, 1, 10), 56);
        due("six for 99 hundredths and more", x.buy(1, 0, 0, 1, 1, 1), 6);
    }

    private static void buyWhereNoneCanCome() {
        due("no WAY", new PensGo().buy(0, 0, 0, 5, 8, 1), -4);
        due("no HOUR", Checks.made(TO_ALL).buy(0, 0, 0, 5, 0, 1), -4);
        due("CHAINED", Checks.made(TO_ALL).buy(4, 0, 0, 5, 8, 1), -4);
        due("none can stay", Checks.made(TO_ALL).buy(5, 1, 0, 0, 1, 1), -4);
        due("none can stay, but one is there", Checks.made("p400;" + TO_ALL)
            .buy(5, 1, 0, 0, 1, 1), 0);
        due("none can stay, two are wanted", Checks.made("p400;" + TO_ALL)
            .buy(5, 1, 0, 0, 1, 2), -4);
    }

    // ---- to lay

    private static void layBehindNoHour() {
        PensGo x = Checks.made(TO_ALL + CHAIN);
        for (int place = 0; place < 6; place++) {
            for (int kind = 0; kind < 8; kind++) {
                due("KIND " + kind + " at " + place, x.lay(kind, 1, place, 0), place);
            }
            due("CHAINED at " + place, x.lay(4, 9, place, 8), place);
        }
    }

    private static void layOfSeveralTheLeast() {
        PensGo x = Checks.made("w309;w319;w329;w349;w359;w135;w435;");
        due("a tenth from 1, 3, 4", x.lay(1, 0, 3, 1), 1);
        x.way(1, 3, 4);
        due("a tenth from 3, 4", x.lay(1, 0, 3, 1), 3);
        x.way(4, 3, 6);
        due("12 hundredths from 4", x.lay(1, 0, 3, 1), 4);
        x.way(5, 3, 6);
        due("12 from 4, 5", x.lay(1, 0, 3, 1), 4);
        x.way(0, 3, 6);
        due("12 from 0, 4, 5", x.lay(1, 0, 3, 1), 0);
        x.way(5, 3, 7);
        due("14 from 5", x.lay(1, 0, 3, 1), 5);
    }

    private static void layWhereNoneIsLikely() {
        PensGo x = Checks.made("w109;w129;w139;w149;w159;");
        due("none stays at 1, none comes", x.lay(5, 0, 1, 1), 0);
        due("nor behind 8 hours", x.lay(5, 0, 1, 8), 0);
        due("all go to 0", x.lay(5, 0, 0, 8), 0);
        due("HOMED 1 stays at 1", x.lay(7, 1, 1, 8), 1);
    }

    // ---- best kind

    private static void bestKindBehindNoHour() {
        PensGo x = Checks.made("p000;p110;p220;p330;p440;p550;p660;p770;p080;p190;" + TO_ALL);
        for (int pen = 0; pen < 10; pen++) {
            due("behind no hour", x.bestKind(pen, 0), 0);
        }
    }

    private static void bestKindOfSeveralTheLeast() {
        PensGo bare = Checks.made("p000;p110;p220;p330;p440;p550;p660;p770;p080;p190;");
        for (int pen = 0; pen < 10; pen++) {
            due("a PEN stays surely", bare.bestKind(pen, 1), 0);
            due("for 8 hours", bare.bestKind(pen, 8), 0);
        }
        PensGo x = Checks.made("p700;p010;p790;w011;");
        due("FREE, CHAINED, EMPTY, HOMED alike", x.bestKind(0, 8), 2);
        due("FREE, CHEWED, CHAINED alike", x.bestKind(1, 8), 2);
        x.way(0, 1, 2);
        due("CHAINED, HOMED alike", x.bestKind(0, 1), 4);
        due("CHAINED alone, CHEWED 1 can go", x.bestKind(1, 1), 4);
        due("CHEWED 9, CHAINED alike", x.bestKind(2, 1), 3);
        x.way(0, 1, 9);
        due("CHEWED 9 of WAY 9", x.bestKind(2, 8), 3);
        x.move(2, 5);
        due("at 5 there is no WAY", x.bestKind(2, 8), 0);
    }
}
