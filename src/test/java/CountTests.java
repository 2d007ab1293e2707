/** Promises 20 to 27: ways of counts, collecting, signs, the last pen, lent, seeds, judged. */
public final class CountTests {
    private static final Checks CHECKS = new Checks();

    private CountTests() {
    }

    public static void main(String[] args) {
        promise20Counts();
        promise21And22Collect();
        promise23Sign();
        promise24Keeps();
        promise25Lent();
        promise26Seeded();
        promise27Judge();
        CHECKS.end();
    }

    private static void due(String call, long got, long want) {
        CHECKS.due(call, got, want);
    }

    private static int ways(PensGo x, int n, int... told) {
        Checks.layRow(x, 1, 2, told);
        return x.counts(1, n);
    }

    private static void promise20Counts() {
        PensGo x = Checks.made("p000;p000;p001;p400;w011;w121;");
        due("as it is", ways(x, 0, 3, 1, 0, 0, 0, 0), 1);
        due("not as it is", ways(x, 0, 2, 2, 0, 0, 0, 0), 0);
        due("one of two goes or the third stays", ways(x, 1, 2, 2, 0, 0, 0, 0), 2);
        due("one goes, the third too", ways(x, 1, 2, 1, 1, 0, 0, 0), 2);
        due("all go on", ways(x, 2, 1, 0, 3, 0, 0, 0), 1);
        due("two of three at 2", ways(x, 20, 1, 1, 2, 0, 0, 0), 3);
        due("too few", ways(x, 20, 1, 1, 1, 0, 0, 0), 0);
        due("too many", ways(x, 20, 1, 1, 3, 0, 0, 0), 0);
        due("below 0", ways(x, 1, 3, 1, 1, 0, 0, -1), 0);
        due("sum wraps around", ways(x, 0, 3, 1, 1 << 30, 1 << 30, 1 << 30, 1 << 30), 0);
        PensGo three = Checks.made("p000;p000;p000;w011;");
        due("any one of three", ways(three, 1, 2, 1, 0, 0, 0, 0), 3);
        due("none told of none", ways(new PensGo(), 20, 0, 0, 0, 0, 0, 0), 1);
        due("one told of none", ways(new PensGo(), 20, 1, 0, 0, 0, 0, 0), 0);
        Checks.layRow(x, 2, 0, 3, 1, 0, 0, 0, 0);
        due("bytes", x.counts(2, 0), 1);
        Checks.layRow(x, 2, 1, 3, 1, 0, 0, 0, 0);
        due("shorts", x.counts(2, 0), 1);
        due("21 hours", x.counts(2, 21), -1);
        due("-1 hours", x.counts(2, -1), -1);
        due("no such shelf", x.counts(8, 0), -1);
        due("no such shelf", x.counts(-1, 0), -1);
        due("21 hours ahead of nothing held", x.counts(7, 21), -1);
        due("nothing held", x.counts(7, 0), -11);
        x.keep(7, 1, 0, 0);
        due("a pen", x.counts(7, 0), -12);
        due("five", ways(x, 0, 3, 1, 0, 0, 0), -13);
        due("seven", ways(x, 0, 3, 1, 0, 0, 0, 0, 0), -13);
        PensGo six = Checks.made("p000;p000;p000;p000;p000;p000;w011;w121;w231;w341;w451;");
        due("six at six places", ways(six, 5, 1, 1, 1, 1, 1, 1), 720);
        due("six at two", ways(six, 1, 3, 3, 0, 0, 0, 0), 20);
        Checks.read(six, "p000;");
        due("seven pens", ways(six, 5, 1, 1, 1, 1, 1, 2), -3);
        due("-13 ahead of -3", ways(six, 5, 1, 1), -13);
    }

    private static void promise21And22Collect() {
        PensGo x = Checks.made("k04;k11;k22;k36;p000;p001;p002;p002;p002;p003;p003;p003;");
        // Minutes a pen: place 0 4, place 1 1, place 2 2/3, place 3 2.
        due("2*3 + 3*1 + 9*3 + 13*1", x.collect(), 49);
        int[] order = {2, 1, 3, 0};
        for (int i = 0; i < 4; i++) {
            due("collected(" + i + ")", x.collected(i), order[i]);
        }
        due("collected(4)", x.collected(4), -4);
        due("collected(-1)", x.collected(-1), -4);
        PensGo even = Checks.made("k12;k34;k56;p005;p005;p005;p003;p003;p001;");
        due("all 2 minutes a pen", even.collect(), 2 + 12 + 36);
        due("the least first", even.collected(0), 1);
        due("then 3", even.collected(1), 3);
        due("then 5", even.collected(2), 5);
        due("no more", even.collected(3), -4);
        due("none", new PensGo().collect(), 0);
        due("none", new PensGo().collected(0), -4);
        due("one", Checks.made("p005;k59;p005;").collect(), 18);
    }

    private static void promise23Sign() {
        PensGo x = Checks.made("p100;p200;");
        due("alike", x.sign(0, 0), 0);
        due("alike where none is", x.sign(5, 8), 0);
        x.way(0, 1, 9);
        due("good ones go faster", x.sign(0, 1), -1);
        due("good ones come faster", x.sign(1, 1), 1);
        due("PEN, CHEWED, CHAINED don't count", Checks.made("p000;p300;p400;").sign(0, 0), 0);
        due("NAMED is a good one", Checks.made("p500;").sign(0, 0), 1);
        due("HOMED is a good one", Checks.made("p700;").sign(0, 0), 1);
        due("EMPTY is a free one", Checks.made("p600;").sign(0, 0), -1);
        due("two are more than one", Checks.made("p600;p200;p500;").sign(0, 8), -1);
        due("no such place", x.sign(6, 0), -1000000001);
        due("no such place", x.sign(-1, 0), -1000000001);
        due("9 hours", x.sign(0, 9), -1000000001);
        due("-1 hours", x.sign(0, -1), -1000000001);
    }

    private static void promise24Keeps() {
        PensGo x = Checks.made("p000;p000;p000;p000;p000;p001;");
        int[] due = {1, 2, 1, -4, 5, 5, 5, 5, 5};
        for (int t = 1; t <= 9; t++) {
            due("five, t " + t, x.keeps(0, t), due[t - 1]);
        }
        due("one", x.keeps(1, 1), 1);
        due("none", x.keeps(2, 9), -4);
        due("t 0", x.keeps(0, 0), -1);
        due("t 10", x.keeps(0, 10), -1);
        due("t below 0", x.keeps(0, -1), -1);
        due("no such place", x.keeps(6, 1), -1);
        due("no such place", x.keeps(-1, 1), -1);
        due("they stay", x.count(0), 6);
    }

    private static void promise25Lent() {
        PensGo x = Checks.made("p000;p003;p004;p400;w019;w129;w209;w319;");
        due("round three places", x.lent(0), 3);
        due("it never comes back", x.lent(1), -4);
        due("it never goes", x.lent(2), -4);
        due("CHAINED", x.lent(3), -4);
        PensGo y = Checks.made("p000;w019;w129;w239;w349;w459;w509;");
        due("round six places", y.lent(0), 6);
        due("no hour has gone", y.count(1) + y.pen(0, 2), 0);
        due("no such pen", x.lent(4), -1);
        due("no such pen", x.lent(-1), -1);
    }

    private static void promise26Seeded() {
        PensGo x = Checks.made("p030;p400;p131;w019;w109;");
        // Drawn by seed 0, an hour a group: 0 68 88, 17 98 27, 45 41 22, 10 61 52, 59 58 87,
        // 75 68 33, 12 61 96, 91 65 71. The PEN goes by 91 to 99, the GOOD one by 0 to 17.
        due("0 falls on place 0", x.seeded(1, 0, 0, 0), 2);
        due("88 falls on place 1", x.seeded(1, 0, 1, 0), 1);
        due("none has gone in 7 hours", x.seeded(7, 0, 1, 0), 1);
        due("91 falls on place 1", x.seeded(8, 0, 1, 0), 2);
        due("worth of a PEN and a GOOD one", x.seeded(8, 0, 1, 1), 10);
        PensGo one = Checks.made("p000;w019;");
        // Drawn by seed 0: 0, 68, 88, 17, 98.
        due("stays for four hours", one.seeded(4, 0, 0, 0), 1);
        due("goes by the fifth", one.seeded(5, 0, 1, 0), 1);
        due("worth at 0", x.seeded(1, 0, 0, 1), 11);
        due("worth at 1", x.seeded(1, 0, 1, 1), 8);
        due("none at 5", x.seeded(40, 7, 5, 0), 0);
        due("worth of none", x.seeded(40, 7, 5, 1), 0);
        due("all are somewhere", x.seeded(40, -9, 0, 0) + x.seeded(40, -9, 1, 0), 3);
        due("they stay", x.pen(2, 2), 1);
        PensGo held = Checks.made("p403;p404;p403;");
        due("two at 3", held.seeded(40, 5, 3, 0), 2);
        due("one at 4", held.seeded(40, 5, 4, 1), 9);
        due("0 hours", x.seeded(0, 1, 0, 0), -1);
        due("41 hours", x.seeded(41, 1, 0, 0), -1);
        due("no such place", x.seeded(1, 1, 6, 0), -1);
        due("no such place", x.seeded(1, 1, -1, 0), -1);
        due("no such what", x.seeded(1, 1, 0, 2), -1);
        due("no such what", x.seeded(1, 1, 0, -1), -1);
    }

    private static void promise27Judge() {
        PensGo x = Checks.made("p000;p400;w019;w129;w209;");
        Checks.layRow(x, 1, 0, 0, 1, 2, 0, 1);
        due("all so", x.judge(0, 1), -4);
        due("CHAINED stays", x.judge(1, 1), 1);
        x.put(1, 3, 5);
        due("the fourth isn't", x.judge(0, 1), 3);
        x.put(1, 3, -128);
        due("skipped", x.judge(0, 1), -4);
        x.put(1, 0, 1);
        due("the first isn't", x.judge(0, 1), 0);
        Checks.layRow(x, 2, 1, -32768, -128);
        due("shorts", x.judge(0, 2), 1);
        Checks.layRow(x, 2, 2, -2147483648, 1, -32768);
        due("ints", x.judge(0, 2), 2);
        x.row(2, 2, 0);
        due("none told", x.judge(0, 2), -4);
        due("no such pen", x.judge(2, 2), -1);
        due("no such pen, nothing held", x.judge(-1, 7), -1);
        due("no such shelf", x.judge(0, 8), -1);
        due("no such shelf", x.judge(0, -1), -1);
        due("nothing held", x.judge(0, 7), -11);
        x.keep(7, 1, 0, 0);
        due("a pen", x.judge(0, 7), -12);
        due("no hour has gone", x.count(1) + x.pen(0, 2), 0);
    }
}
