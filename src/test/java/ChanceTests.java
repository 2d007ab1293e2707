/** Promises 10 to 19: chances, means, what can be, sinks, heaps, buying and laying. */
public final class ChanceTests {
    private static final Checks CHECKS = new Checks();

    private ChanceTests() {
    }

    public static void main(String[] args) {
        promise10Odds();
        promise11Mean();
        promise12Stays();
        promise13Can();
        promise14Whose();
        promise15Sink();
        promise16Heap();
        promise17Buy();
        promise18Lay();
        promise19BestKind();
        CHECKS.end();
    }

    private static void due(String call, long got, long want) {
        CHECKS.due(call, got, want);
    }

    private static void promise10Odds() {
        PensGo x = Checks.made("p000;w018;w105;w024;");
        due("surely there now", x.odds(0, 0, 0, 0), 1);
        due("of 1", x.odds(0, 0, 0, 1), 1);
        due("not elsewhere now", x.odds(0, 1, 0, 0), 0);
        due("0 of 1", x.odds(0, 1, 0, 1), 1);
        due("88 of 100", x.odds(0, 0, 1, 0), 22);
        due("22 of 25", x.odds(0, 0, 1, 1), 25);
        due("8 of 100", x.odds(0, 1, 1, 1), 25);
        due("88*88 + 8*5 of 10000", x.odds(0, 0, 2, 0), 973);
        due("7784 is 8 * 973", x.odds(0, 0, 2, 1), 1250);
        due("88*8 + 8*95", x.odds(0, 1, 2, 0), 183);
        due("1464 is 8 * 183", x.odds(0, 1, 2, 1), 1250);
        due("never", x.odds(0, 5, 8, 0), 0);
        due("nothing is gone", x.count(1) + x.pen(0, 2), 0);
        due("no such pen", x.odds(1, 0, 0, 0), -1);
        due("no such pen", x.odds(-1, 0, 0, 0), -1);
        due("no such place", x.odds(0, 6, 0, 0), -1);
        due("no such place", x.odds(0, -1, 0, 0), -1);
        due("9 hours", x.odds(0, 0, 9, 0), -1);
        due("-1 hours", x.odds(0, 0, -1, 0), -1);
        due("no such part", x.odds(0, 0, 0, 2), -1);
        due("no such part", x.odds(0, 0, 0, -1), -1);
        PensGo y = Checks.made("p100;w019;w029;w039;w049;w059;");
        due("a tenth stays, 8 times", y.odds(0, 0, 8, 0), 1);
        due("of 10 to the 8", y.odds(0, 0, 8, 1), 100000000);
    }

    private static void promise11Mean() {
        PensGo x = Checks.made("p000;p101;p400;w018;w105;");
        due("two at 0 now", x.mean(0, 0, 0), 2);
        due("of 1", x.mean(0, 0, 1), 1);
        due("92 + 10 + 100", x.mean(0, 1, 0), 101);
        due("202 of 100", x.mean(0, 1, 1), 50);
        due("8 + 90", x.mean(1, 1, 0), 49);
        due("98 of 100", x.mean(1, 1, 1), 50);
        due("none at 5", x.mean(5, 8, 0), 0);
        due("0 of 1", x.mean(5, 8, 1), 1);
        due("no such place", x.mean(6, 0, 0), -1);
        due("no such place", x.mean(-1, 0, 0), -1);
        due("9 hours", x.mean(0, 9, 0), -1);
        due("-1 hours", x.mean(0, -1, 0), -1);
        due("no such part", x.mean(0, 0, 2), -1);
        due("no such part", x.mean(0, 0, -1), -1);
        PensGo full = Checks.made("p400;p400;p400;p400;p400;p400;p400;p400;p400;p400;");
        due("ten stay", full.mean(0, 8, 0), 10);
    }

    private static void promise12Stays() {
        PensGo x = Checks.made("p000;w019;w105;p500;");
        due("n 0 above", x.stays(0, 0, 0), 1);
        due("n 0 below", x.stays(0, 0, 1), 1);
        due("91 of 100", x.stays(0, 1, 0), 91);
        due("91 of 100", x.stays(0, 1, 1), 100);
        due("91 to the 8", x.stays(0, 8, 0), 4702525276151521L);
        due("100 to the 8", x.stays(0, 8, 1), 10000000000000000L);
        due("82 of 100, twice", x.stays(1, 2, 0), 1681);
        due("50 to the 2", x.stays(1, 2, 1), 2500);
        x.move(0, 1);
        due("95 of 100 at 1", x.stays(0, 1, 0), 19);
        due("19 of 20", x.stays(0, 1, 1), 20);
        due("9 hours", x.stays(0, 9, 0), -1);
        due("-1 hours", x.stays(0, -1, 0), -1);
        due("no such pen", x.stays(2, 1, 0), -1);
        due("no such pen", x.stays(-1, 1, 0), -1);
        due("no such part", x.stays(0, 1, 2), -1);
        due("no such part", x.stays(0, 1, -1), -1);
    }

    private static void promise13Can() {
        PensGo x = Checks.made("p000;p400;p580;w011;w121;w231;");
        due("now", x.can(0, 0), 1);
        due("1 hour", x.can(0, 1), 3);
        due("2 hours", x.can(0, 2), 7);
        due("20 hours", x.can(0, 20), 15);
        due("CHAINED", x.can(1, 20), 1);
        due("NAMED 8 at 0", x.can(2, 1), 7);
        PensGo sure = Checks.made("p500;w019;w029;w039;w049;w059;m05;m00;");
        due("FIGURE 0 at 0 may stay", sure.can(0, 1), 63);
        PensGo away = Checks.made("p510;w019;w029;w039;w049;w059;");
        due("100 hundredths away", away.can(0, 1), 62);
        due("half as FREE", Checks.made("p200;w011;").can(0, 20), 1);
        due("no such pen", x.can(3, 0), -1);
        due("no such pen", x.can(-1, 0), -1);
        due("21 hours", x.can(0, 21), -1);
        due("-1 hours", x.can(0, -1), -1);
    }

    private static void promise14Whose() {
        PensGo x = Checks.made("p000;p400;p002;p001;w011;w121;w231;");
        due("at 0 now", x.whose(0, 0), 3);
        due("at 2 now", x.whose(2, 0), 4);
        due("at 2 behind 1", x.whose(2, 1), 12);
        due("at 2 behind 2", x.whose(2, 2), 13);
        due("at 3 behind 20", x.whose(3, 20), 13);
        due("at 5 behind 20", x.whose(5, 20), 0);
        due("no such place", x.whose(6, 0), -1);
        due("no such place", x.whose(-1, 0), -1);
        due("21 hours", x.whose(0, 21), -1);
        due("-1 hours", x.whose(0, -1), -1);
    }

    private static void promise15Sink() {
        PensGo x = new PensGo();
        due("all alike", x.sink(0), 0);
        due("all alike", x.sink(1), 0);
        x.way(2, 4, 9);
        due("4 has 9 more", x.sink(0), 4);
        due("2 has 9 less", x.sink(1), 2);
        x.way(1, 3, 9);
        due("3 and 4 alike", x.sink(0), 3);
        due("1 and 2 alike", x.sink(1), 1);
        x.way(4, 1, 2);
        x.way(2, 4, 1);
        due("3 is ahead", x.sink(0), 3);
        due("1 has 7 less", x.sink(1), 1);
        x.way(5, 0, 9);
        due("0 has 9 more, as 3", x.sink(0), 0);
        due("5 has 9 less", x.sink(1), 5);
        x.way(0, 5, 1);
        due("0 has but 8 more", x.sink(0), 3);
        due("5 has 8 less, 1 but 7", x.sink(1), 5);
        due("sink(2)", x.sink(2), -1);
        due("sink(-1)", x.sink(-1), -1);
    }

    private static void promise16Heap() {
        PensGo x = Checks.made("p001;p002;p002;p004;w029;w249;w419;w149;");
        due("two at 2", x.heap(0, 0), 2);
        due("two", x.heap(0, 1), 2);
        due("1 to 4, 2 to 4, 4 to 1", x.heap(1, 0), 4);
        due("three", x.heap(1, 1), 3);
        due("4 to 1", x.heap(2, 0), 1);
        due("three", x.heap(2, 1), 3);
        due("even hours", x.heap(50, 0), 1);
        due("odd hours", x.heap(49, 0), 4);
        due("no hour has gone", x.count(1) + x.pen(0, 2), 1);
        due("of several the least", Checks.made("p003;p001;").heap(0, 0), 1);
        due("none", new PensGo().heap(50, 0), 0);
        due("none", new PensGo().heap(50, 1), 0);
        due("51 hours", x.heap(51, 0), -1);
        due("-1 hours", x.heap(-1, 0), -1);
        due("no such what", x.heap(0, 2), -1);
        due("no such what", x.heap(0, -1), -1);
    }

    private static void promise17Buy() {
        PensGo x = Checks.made("p000;p001;w018;");
        due("one is there", x.buy(0, 0, 0, 1, 0, 1), 0);
        due("one more at 1", x.buy(0, 0, 1, 1, 0, 2), 1);
        due("99 are 98 and one", x.buy(4, 0, 1, 1, 8, 99), 98);
        due("none from 0 in no hour", x.buy(0, 0, 0, 1, 0, 2), -4);
        due("108 and 8 k of 200", x.buy(0, 0, 0, 1, 1, 2), 12);
        due("108 and 16 k of 200", x.buy(1, 0, 0, 1, 1, 2), 6);
        due("108 and 4 k of 500", x.buy(2, 0, 0, 1, 1, 5), 98);
        due("108 and 4 k of 600", x.buy(2, 0, 0, 1, 1, 6), -4);
        due("108 and 3 k of 400", x.buy(3, 5, 0, 1, 1, 4), 98);
        due("exactly 99", new PensGo().buy(4, 0, 3, 3, 8, 99), 99);
        due("more than room has", new PensGo().buy(0, 0, 3, 3, 0, 11), 11);
        due("nothing is bought", x.count(0), 2);
        int[][] wrong = {{-1, 0, 0, 0, 0, 1}, {8, 0, 0, 0, 0, 1}, {0, -1, 0, 0, 0, 1},
            {0, 10, 0, 0, 0, 1}, {0, 0, -1, 0, 0, 1}, {0, 0, 6, 0, 0, 1}, {0, 0, 0, -1, 0, 1},
            {0, 0, 0, 6, 0, 1}, {0, 0, 0, 0, -1, 1}, {0, 0, 0, 0, 9, 1}, {0, 0, 0, 0, 0, 0},
            {0, 0, 0, 0, 0, 100}};
        for (int[] w : wrong) {
            due("buy" + java.util.Arrays.toString(w), x.buy(w[0], w[1], w[2], w[3], w[4], w[5]),
                -1);
        }
    }

    private static void promise18Lay() {
        PensGo x = Checks.made("w039;w238;w345;s32;");
        due("where it is to be", x.lay(0, 0, 3, 0), 3);
        due("CHAINED", x.lay(4, 0, 3, 8), 3);
        due("97 stay", x.lay(0, 0, 3, 1), 3);
        due("all alike: none comes to 1 but from 1", x.lay(0, 0, 1, 8), 1);
        PensGo y = Checks.made("w129;w139;w149;w159;w109;w039;w059;w319;w329;w349;w359;w309;");
        due("GOOD ones leave 1 at once: likelier from 0", y.lay(1, 0, 5, 1), 5);
        due("at 1 it is a tenth; from 3, 18", y.lay(1, 0, 1, 1), 3);
        due("FIGURE counts", y.lay(7, 1, 1, 8), 1);
        due("no such kind", x.lay(8, 0, 0, 0), -1);
        due("no such kind", x.lay(-1, 0, 0, 0), -1);
        due("no such figure", x.lay(0, 10, 0, 0), -1);
        due("no such figure", x.lay(0, -1, 0, 0), -1);
        due("no such place", x.lay(0, 0, 6, 0), -1);
        due("no such place", x.lay(0, 0, -1, 0), -1);
        due("9 hours", x.lay(0, 0, 0, 9), -1);
        due("-1 hours", x.lay(0, 0, 0, -1), -1);
        PensGo even = Checks.made("w039;w139;w239;w439;w539;w309;w319;w329;w349;w359;");
        due("of several the least", even.lay(1, 0, 3, 1), 0);
    }

    private static void promise19BestKind() {
        PensGo x = Checks.made("p000;p130;p200;p331;w019;w105;");
        due("all surely, the least", x.bestKind(0, 0), 0);
        due("CHAINED", x.bestKind(1, 1), 4);
        due("FIGURE 0 at 0: CHAINED ahead of HOMED", x.bestKind(2, 8), 4);
        due("CHEWED 3 less than PEN", x.bestKind(3, 1), 4);
        x.way(0, 1, 0);
        due("a PEN stays surely", x.bestKind(0, 8), 0);
        x.way(0, 1, 1);
        due("FREE are not drawn by 1", x.bestKind(0, 8), 2);
        x.way(0, 1, 3);
        due("CHEWED 3 is not drawn by 3", x.bestKind(1, 8), 3);
        due("no such pen", x.bestKind(4, 0), -1);
        due("no such pen", x.bestKind(-1, 0), -1);
        due("9 hours", x.bestKind(0, 9), -1);
        due("-1 hours", x.bestKind(0, -1), -1);
        due("it stays what it is", x.pen(0, 0), 0);
    }
}
