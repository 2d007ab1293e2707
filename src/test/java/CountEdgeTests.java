/** The edges of promises 20 to 27: none, six, seven and ten pens, first and last, drawn numbers. */
public final class CountEdgeTests {
    private static final Checks CHECKS = new Checks();
    private static final String CHAIN = "w019;w129;w239;w349;w459;";
    private static final String TO_ALL = "w019;w029;w039;w049;w059;";

    private CountEdgeTests() {
    }

    public static void main(String[] args) {
        countsOfNone();
        countsOfSixAndSeven();
        countsOfAnySort();
        countsThatCantBe();
        countsByTheHour();
        collectNone();
        collectOne();
        collectSix();
        collectOfSeveralTheFirst();
        signOfNoneAndOfTen();
        signByAHair();
        signOfAllUnder();
        keepsOfEachNumber();
        lentRound();
        lentNever();
        seededOnTheEdges();
        seededWrapsAround();
        seededEachPenByNumbers();
        seededHourByHour();
        seededFromWhereItIsInMind();
        judgeNoneAndAHundred();
        judgeSkipsTheLeast();
        judgeFirstAndLast();
        CHECKS.end();
    }

    private static void due(String call, long got, long want) {
        CHECKS.due(call, got, want);
    }

    // ---- counts

    private static int ways(PensGo x, int n, int... told) {
        Checks.layRow(x, 1, 2, told);
        return x.counts(1, n);
    }

    private static void countsOfNone() {
        due("no PENS, none told", ways(new PensGo(), 0, 0, 0, 0, 0, 0, 0), 1);
        due("no PENS, none told", ways(new PensGo(), 20, 0, 0, 0, 0, 0, 0), 1);
        due("no PENS, one told", ways(new PensGo(), 0, 0, 0, 0, 0, 0, 1), 0);
        due("no PENS, 1 less 1 told", ways(new PensGo(), 0, 1, -1, 0, 0, 0, 0), 0);
        due("one PEN, none told", ways(Worlds.chained(1, 0), 0, 0, 0, 0, 0, 0, 0), 0);
        due("one PEN at 5", ways(Worlds.chained(1, 5), 20, 0, 0, 0, 0, 0, 1), 1);
    }

    private static void countsOfSixAndSeven() {
        due("six at one PLACE", ways(Worlds.chained(6, 5), 20, 0, 0, 0, 0, 0, 6), 1);
        due("six at another", ways(Worlds.chained(6, 5), 20, 6, 0, 0, 0, 0, 0), 0);
        due("seven PENS", ways(Worlds.chained(7, 5), 20, 0, 0, 0, 0, 0, 7), -3);
        due("seven PENS, six told", ways(Worlds.chained(7, 5), 20, 0, 0, 0, 0, 0, 6), -3);
        due("ten PENS", ways(Worlds.chained(10, 5), 0, 0, 0, 0, 0, 0, 6), -3);
        PensGo x = Worlds.chained(7, 5);
        Checks.read(x, "u;");
        due("six of seven are left", ways(x, 20, 0, 0, 0, 0, 0, 6), 1);
        PensGo all = Checks.made("p000;p000;p000;p000;p000;p000;" + TO_ALL);
        due("each elsewhere", ways(all, 1, 1, 1, 1, 1, 1, 1), 720);
        due("all stay", ways(all, 1, 6, 0, 0, 0, 0, 0), 1);
        due("three and three", ways(all, 1, 3, 0, 0, 0, 0, 3), 20);
        due("two, two, two", ways(all, 1, 0, 2, 2, 2, 0, 0), 90);
        due("one of six", ways(all, 1, 5, 0, 0, 1, 0, 0), 6);
    }

    private static void countsOfAnySort() {
        for (int sort = 0; sort < 3; sort++) {
            PensGo x = Worlds.chained(6, 3);
            Checks.layRow(x, 1, sort, 0, 0, 0, 6, 0, 0);
            due("SORT " + sort, x.counts(1, 0), 1);
            x.row(1, sort, 5);
            due("five of SORT " + sort, x.counts(1, 0), -13);
            x.row(1, sort, 7);
            due("seven of SORT " + sort, x.counts(1, 0), -13);
            x.row(1, sort, 0);
            due("none of SORT " + sort, x.counts(1, 0), -13);
            x.row(1, sort, 100);
            due("a hundred of SORT " + sort, x.counts(1, 0), -13);
        }
        PensGo bytes = Worlds.chained(6, 3);
        Checks.layRow(bytes, 1, 0, 0, 0, 0, 256 + 6, 0, 0);
        due("lowest bits of 262", bytes.counts(1, 0), 1);
    }

    private static void countsThatCantBe() {
        PensGo x = Worlds.chained(6, 0);
        int least = Integer.MIN_VALUE;
        int most = Integer.MAX_VALUE;
        due("one too many", ways(x, 0, 7, 0, 0, 0, 0, 0), 0);
        due("one too few", ways(x, 0, 5, 0, 0, 0, 0, 0), 0);
        due("7 less 1", ways(x, 0, 7, -1, 0, 0, 0, 0), 0);
        due("the greatest", ways(x, 0, most, 0, 0, 0, 0, 0), 0);
        due("the least", ways(x, 0, least, 0, 0, 0, 0, 0), 0);
        due("six, and two that wrap around to 0", ways(x, 0, 6, least, least, 0, 0, 0), 0);
        due("four that wrap around to 0", ways(x, 0, 6, 1 << 30, 1 << 30, 1 << 30, 1 << 30, 0), 0);
        due("the least and the greatest", ways(x, 0, 6, least, most, 1, 0, 0), 0);
    }

    private static void countsByTheHour() {
        PensGo x = Checks.made("p000;p000;p000;p000;p000;p000;" + CHAIN);
        due("5 is four hours beyond", ways(x, 4, 1, 1, 1, 1, 1, 1), 0);
        due("five hours", x.counts(1, 5), 720);
        due("20 hours", x.counts(1, 20), 720);
        due("no hour", x.counts(1, 0), 0);
        due("all still there", ways(x, 20, 6, 0, 0, 0, 0, 0), 1);
        PensGo away = Checks.made("p510;p510;" + TO_ALL);
        due("one can't stay", ways(away, 1, 1, 1, 0, 0, 0, 0), 0);
        due("both go", ways(away, 1, 0, 1, 1, 0, 0, 0), 2);
    }

    // ---- collecting

    private static void collected(PensGo x, int... places) {
        for (int i = 0; i < places.length; i++) {
            due("collected(" + i + ")", x.collected(i), places[i]);
        }
        due("none behind the last", x.collected(places.length), -4);
        due("none ahead of the first", x.collected(-1), -4);
        due("none far behind", x.collected(Integer.MAX_VALUE), -4);
        due("none far ahead", x.collected(Integer.MIN_VALUE), -4);
    }

    private static void collectNone() {
        PensGo x = Checks.made("k09;k19;p000;u;");
        due("no PENS", x.collect(), 0);
        collected(x);
    }

    private static void collectOne() {
        PensGo x = Checks.made("p005;k59;k09;");
        due("9 minutes", x.collect(), 9);
        collected(x, 5);
        PensGo ten = Worlds.chained(10, 0);
        due("a minute each", ten.collect(), 10);
        ten.set(0, 1, 9);
        due("9 minutes each", ten.collect(), 90);
        collected(ten, 0);
    }

    private static void collectSix() {
        String six = "p005;p004;p003;p002;p001;p000;";
        PensGo even = Checks.made(six + "k09;k19;k29;k39;k49;k59;");
        due("9, 18, 27, 36, 45, 54", even.collect(), 189);
        collected(even, 0, 1, 2, 3, 4, 5);
        PensGo rising = Checks.made(six + "k06;k15;k24;k33;k42;k51;");
        due("1, 3, 6, 10, 15, 21", rising.collect(), 56);
        collected(rising, 5, 4, 3, 2, 1, 0);
    }

    private static void collectOfSeveralTheFirst() {
        PensGo x = Checks.made("p000;p000;p000;p000;p000;p000;p000;p000;p000;p001;k09;");
        due("nine at 9 minutes, one at 1", x.collect(), 91);
        collected(x, 0, 1);
        x.set(0, 1, 8);
        due("72 and 9", x.collect(), 81);
        collected(x, 0, 1);
        PensGo y = Checks.made("p000;p001;p001;p001;p001;p001;p001;p001;p001;p001;k19;");
        due("1 and nine at 10", y.collect(), 91);
        collected(y, 0, 1);
        y.set(1, 1, 8);
        due("nine at 8 and one at 9", y.collect(), 81);
        collected(y, 1, 0);
        PensGo thirds = Checks.made("p002;p002;p004;p005;p005;p005;k22;k41;k53;k31;");
        due("2 * 2 + 3 + 3 * 6", thirds.collect(), 25);
        collected(thirds, 2, 4, 5);
        PensGo mixed = Checks.made("p001;p003;p003;p005;p000;k04;k12;k34;k51;");
        due("1 + 3 + 2 * 7 + 11", mixed.collect(), 29);
        collected(mixed, 5, 1, 3, 0);
    }

    // ---- signs

    private static void signOfNoneAndOfTen() {
        String good = "p110;p110;p110;p110;p110;p110;p110;p110;p110;p110;";
        String free = "p210;p210;p210;p210;p210;p210;p210;p210;p210;p210;";
        for (int n = 0; n <= 8; n += 8) {
            for (int place = 0; place < 6; place++) {
                due("of none", new PensGo().sign(place, n), 0);
                due("ten GOOD ones", Checks.made(good).sign(place, n), place == 0 ? 1 : 0);
                due("ten FREE ones", Checks.made(free).sign(place, n), place == 0 ? -1 : 0);
            }
        }
    }

    private static void signByAHair() {
        String pens = "p100;p100;p100;p100;p100;p600;p600;p600;";
        PensGo x = Checks.made(pens + "s05;" + TO_ALL);
        due("five by 60 hundredths, three surely", x.sign(0, 1), 0);
        x.way(0, 5, 8);
        due("five by 62", x.sign(0, 1), 1);
        x.way(0, 5, 9);
        Checks.read(x, "p600;");
        due("four surely", x.sign(0, 1), -1);
        PensGo y = Checks.made("p100;p200;w011;");
        due("alike now", y.sign(0, 0), 0);
        for (int n = 1; n <= 8; n++) {
            due("the GOOD one may go", y.sign(0, n), -1);
            due("the FREE one never comes", y.sign(1, n), 1);
            due("neither comes", y.sign(2, n), 0);
        }
    }

    private static void signOfAllUnder() {
        int[] signs = {0, 1, -1, 0, 0, 1, -1, 1};
        for (int kind = 0; kind < 8; kind++) {
            due("KIND " + kind, Checks.made("p" + kind + "05;").sign(5, 0), signs[kind]);
        }
        due("all KINDS: three to two", Checks.made("p000;p100;p200;p300;p400;p500;p600;p700;")
            .sign(0, 8), 1);
        due("two to two", Checks.made("p000;p200;p300;p400;p500;p600;p700;").sign(0, 8), 0);
    }

    // ---- who keeps the last

    private static void keepsOfEachNumber() {
        int no = -4;
        int[][] takes = {
            {no, no, no, no, no, no, no, no, no}, {1, 1, 1, 1, 1, 1, 1, 1, 1},
            {no, 2, 2, 2, 2, 2, 2, 2, 2}, {1, no, 3, 3, 3, 3, 3, 3, 3},
            {no, 1, no, 4, 4, 4, 4, 4, 4}, {1, 2, 1, no, 5, 5, 5, 5, 5},
            {no, no, 2, 1, no, 6, 6, 6, 6}, {1, 1, 3, 2, 1, no, 7, 7, 7},
            {no, 2, no, 3, 2, 1, no, 8, 8}, {1, no, 1, 4, 3, 2, 1, no, 9},
            {no, 1, 2, no, 4, 3, 2, 1, no}};
        for (int pens = 0; pens <= 10; pens++) {
            PensGo x = Worlds.chained(pens, 5);
            for (int t = 1; t <= 9; t++) {
                due(pens + " pens, " + t + " at most", x.keeps(5, t), takes[pens][t - 1]);
                due("none at another place", x.keeps(4, t), -4);
            }
        }
    }

    // ---- lent

    private static void lentRound() {
        String[] rounds = {"w019;w109;", "w019;w129;w209;", "w019;w129;w239;w309;",
            "w019;w129;w239;w349;w409;", "w019;w129;w239;w349;w459;w509;"};
        for (int i = 0; i < rounds.length; i++) {
            PensGo x = Checks.made("p000;p001;" + rounds[i]);
            due("round of " + (i + 2), x.lent(0), i + 2);
            due("from the second place", x.lent(1), i + 2);
        }
    }

    private static void lentNever() {
        due("it stays", Checks.made("p000;").lent(0), -4);
        due("it goes and stays", Checks.made("p000;w019;").lent(0), -4);
        due("it goes to and fro elsewhere", Checks.made("p000;w019;w129;w219;").lent(0), -4);
        due("by PULL 5 it stays", Checks.made("p000;w014;w109;").lent(0), -4);
        due("by PULL 4 it goes", Checks.made("p000;w014;w109;g4;").lent(0), 2);
        due("CHAINED", Checks.made("p400;w019;w109;").lent(0), -4);
        due("HOMED goes home for good", Checks.made("p741;w419;").lent(0), -4);
        due("NAMED comes back", Checks.made("p541;w419;").lent(0), 2);
    }

    // ---- seeds

    /** The z that becomes next: 1103515245 times -289805467 is 1, as ints wrap around. */
    private static int seedOf(int next) {
        return (next - 12345) * -289805467;
    }

    private static int nextOf(int z) {
        return (int) (z * 1103515245L + 12345L);
    }

    /** The number below 100 that z, having become what it is, tells. */
    private static int number(int z) {
        return (z & Integer.MAX_VALUE) / 65536 % 100;
    }

    private static void goesTo(PensGo x, int next, int place) {
        for (int q = 0; q < 6; q++) {
            due("by " + next + " to " + place, x.seeded(1, seedOf(next), q, 0), q == place ? 1 : 0);
        }
    }

    private static void seededOnTheEdges() {
        PensGo first = Checks.made("p000;w019;");
        PensGo last = Checks.made("p005;w509;");
        for (int hundreds = 0; hundreds <= 300; hundreds += 100) {
            goesTo(first, hundreds << 16, 0);
            goesTo(first, (hundreds + 91 << 16) - 1, 0);
            goesTo(first, hundreds + 91 << 16, 1);
            goesTo(first, (hundreds + 100 << 16) - 1, 1);
            goesTo(last, hundreds << 16, 0);
            goesTo(last, (hundreds + 9 << 16) - 1, 0);
            goesTo(last, hundreds + 9 << 16, 5);
            goesTo(last, (hundreds + 100 << 16) - 1, 5);
        }
        int[] ends = {0, 28, 46, 64, 82, 100};
        for (int place = 1; place < 6; place++) {
            PensGo all = Checks.made("p510;" + TO_ALL);
            goesTo(all, ends[place - 1] << 16, place);
            goesTo(all, (ends[place] << 16) - 1, place);
        }
        PensGo stays = Checks.made("p403;w309;");
        goesTo(stays, 0, 3);
        goesTo(stays, 99 << 16, 3);
    }

    private static void seededWrapsAround() {
        PensGo x = Checks.made("p000;w019;");
        int sign = Integer.MIN_VALUE;
        goesTo(x, sign, 0);
        goesTo(x, sign + (91 << 16) - 1, 0);
        goesTo(x, sign + (91 << 16), 1);
        goesTo(x, sign + (100 << 16) - 1, 1);
        goesTo(x, sign + (100 << 16), 0);
        // 32767 modulo 100 is 67, which is one to 82 of NAMED 1 at 0: place 4.
        PensGo named = Checks.made("p510;" + TO_ALL);
        goesTo(named, Integer.MAX_VALUE, 4);
        goesTo(named, -1, 4);
        due("the least seed", x.seeded(1, sign, 0, 0), number(nextOf(sign)) < 91 ? 1 : 0);
        due("the greatest seed", x.seeded(1, Integer.MAX_VALUE, 0, 0),
            number(nextOf(Integer.MAX_VALUE)) < 91 ? 1 : 0);
    }

    private static void seededEachPenByNumbers() {
        PensGo x = Checks.made("p000;p190;w019;");
        for (int z = -60; z <= 60; z++) {
            int first = nextOf(z);
            int second = nextOf(first);
            int worth = (number(first) >= 91 ? 2 : 0) + (number(second) >= 82 ? 20 : 0);
            int many = (number(first) >= 91 ? 1 : 0) + (number(second) >= 82 ? 1 : 0);
            due("worth at 1, seed " + z, x.seeded(1, z, 1, 1), worth);
            due("worth at 0, seed " + z, x.seeded(1, z, 0, 1), 22 - worth);
            due("how many at 1, seed " + z, x.seeded(1, z, 1, 0), many);
        }
    }

    /** Of four drawn numbers the first PEN has the 1st and the 3rd, the other one the rest. */
    private static void seededHourByHour() {
        PensGo x = Checks.made("p000;p190;w019;");
        for (int z = -60; z <= 60; z++) {
            int[] drawn = new int[4];
            int next = z;
            for (int i = 0; i < 4; i++) {
                next = nextOf(next);
                drawn[i] = number(next);
            }
            int worth = (drawn[0] >= 91 || drawn[2] >= 91 ? 2 : 0)
                + (drawn[1] >= 82 || drawn[3] >= 82 ? 20 : 0);
            due("worth at 1 behind two hours, seed " + z, x.seeded(2, z, 1, 1), worth);
        }
    }

    private static void seededFromWhereItIsInMind() {
        PensGo x = Checks.made("p000;w019;w209;w129;");
        for (int z = -30; z <= 30; z++) {
            int at = 0;
            int next = z;
            for (int n = 1; n <= 40; n++) {
                next = nextOf(next);
                int drawn = number(next);
                at = at == 0 ? (drawn < 91 ? 0 : 1) : at == 1 ? (drawn < 91 ? 1 : 2)
                    : drawn < 9 ? 0 : 2;
                if (n % 13 == 1) {
                    due("seed " + z + ", hours " + n, x.seeded(n, z, at, 0), 1);
                }
            }
        }
        due("none at all", new PensGo().seeded(40, 1, 0, 0), 0);
        due("worth of none at all", new PensGo().seeded(40, 1, 0, 1), 0);
        due("ten for 40 hours", Worlds.chained(10, 5).seeded(40, 1, 5, 0), 10);
        due("their worth", Worlds.chained(10, 5).seeded(40, 1, 5, 1), 90);
    }

    // ---- told places

    private static void judgeNoneAndAHundred() {
        PensGo x = Checks.made("p000;w019;w109;");
        x.row(1, 0, 0);
        due("none told", x.judge(0, 1), -4);
        x.row(1, 0, 100);
        for (int i = 1; i < 100; i += 2) {
            x.put(1, i, 1);
        }
        due("a hundred as told", x.judge(0, 1), -4);
        x.put(1, 99, 0);
        due("the last isn't so", x.judge(0, 1), 99);
        x.put(1, 98, 1);
        due("the first of two that aren't", x.judge(0, 1), 98);
        x.put(1, 0, 1);
        due("the first of all", x.judge(0, 1), 0);
    }

    private static void judgeSkipsTheLeast() {
        int[] least = {-128, -32768, Integer.MIN_VALUE};
        int[] wrapped = {128, 32768, Integer.MIN_VALUE};
        int[] most = {127, 32767, Integer.MAX_VALUE};
        for (int sort = 0; sort < 3; sort++) {
            PensGo x = Checks.made("p000;w019;w129;");
            Checks.layRow(x, 1, sort, least[sort], 1, least[sort], 2);
            due("the HOUR of what is skipped goes by", x.judge(0, 1), -4);
            Checks.layRow(x, 1, sort, least[sort], least[sort]);
            due("all is skipped", x.judge(0, 1), -4);
            Checks.layRow(x, 1, sort, wrapped[sort], 1);
            due("what wraps around to the least", x.judge(0, 1), -4);
            Checks.layRow(x, 1, sort, 0, least[sort] + 1);
            due("one above the least", x.judge(0, 1), 1);
            Checks.layRow(x, 1, sort, 0, 1, most[sort]);
            due("the greatest", x.judge(0, 1), 2);
            Checks.layRow(x, 1, sort, least[sort], 0);
            due("skipped, and not so", x.judge(0, 1), 1);
        }
        PensGo x = Checks.made("p000;w019;");
        Checks.layRow(x, 1, 1, 0, -128);
        due("the least byte among shorts", x.judge(0, 1), 1);
        Checks.layRow(x, 1, 2, 0, -128);
        due("the least byte among ints", x.judge(0, 1), 1);
        Checks.layRow(x, 1, 2, 0, -32768);
        due("the least short among ints", x.judge(0, 1), 1);
        Checks.layRow(x, 1, 0, 256, 257);
        due("lowest bits of bytes", x.judge(0, 1), -4);
    }

    private static void judgeFirstAndLast() {
        PensGo x = Worlds.full();
        Checks.layRow(x, 4, 2, x.pen(9, 2), x.pen(9, 4));
        due("the tenth PEN as it is now", x.judge(9, 4), -4);
        PensGo stays = Checks.made("p405;");
        Checks.layRow(stays, 4, 0, 5, 5, 5, 6);
        due("a PLACE 6 isn't so", stays.judge(0, 4), 3);
        Checks.layRow(stays, 4, 0, 5, -1);
        due("nor is -1", stays.judge(0, 4), 1);
        stays.set(0, 2, 1);
        Checks.layRow(stays, 4, 0, 5, 5);
        due("by any PULL", stays.judge(0, 4), -4);
    }
}
