import java.util.Random;

/** Runs of 512 calls, drawn by fixed seeds, on a PensGo and on the Model: all answers are alike. */
public final class ModelTests {
    private static final Checks CHECKS = new Checks();
    private static final int RUNS = 400;
    private static final int CALLS = 512;
    private static final int FACE = 36;

    private final Random random;
    private final String run;
    private final PensGo x = new PensGo();
    private final Model m = new Model();
    private int wide;

    private ModelTests(int seed) {
        random = new Random(seed);
        run = "run " + seed + ": ";
    }

    public static void main(String[] args) {
        for (int seed = 1; seed <= RUNS; seed++) {
            new ModelTests(seed).go();
        }
        CHECKS.end();
    }

    /** A number from 0 to most, now and then one that is a little or far out of this. */
    private int upTo(int most) {
        if (random.nextInt(wide) != 0) {
            return random.nextInt(most + 1);
        }
        int[] odd = {-1, most + 1, -2, most + 2, Integer.MAX_VALUE, Integer.MIN_VALUE};
        return odd[random.nextInt(odd.length)];
    }

    private int pen() {
        return upTo(Math.max(0, m.pens.size() - 1));
    }

    private void due(String call, long got, long want) {
        CHECKS.due(run + call, got, want);
    }

    private void go() {
        wide = 10 + random.nextInt(60);
        int calls = 0;
        if (random.nextInt(8) != 0) {
            for (int from = 0; from < 6; from++) {
                for (int to = 0; to < 6; to++) {
                    int v = random.nextInt(3) == 0 ? 0 : random.nextInt(10);
                    due("way", x.way(from, to, v), m.way(from, to, v));
                    calls++;
                }
            }
            for (int i = random.nextInt(11); i > 0; i--) {
                addPen();
                calls += 2;
            }
        }
        while (calls < CALLS - 110) {
            int call = random.nextInt(FACE + 2);
            if (call >= FACE) {
                calls += readText();
            } else if (call < 14) {
                change(call);
            } else if (call < 26) {
                ask(call);
            } else {
                askMore(call);
            }
            calls++;
        }
        for (int what = 0; what < 5; what++) {
            due("last count(" + what + ")", x.count(what), m.count(what));
        }
    }

    private void addPen() {
        int kind = random.nextInt(8);
        int figure = random.nextInt(10);
        int place = random.nextInt(6);
        due("keep", x.keep(7, 1, kind, figure), m.keep(7, 1, kind, figure));
        due("comes", x.comes(7, place), m.comes(7, place));
    }

    private int digit(int most) {
        return random.nextInt(40) == 0 ? random.nextInt(10) : random.nextInt(most + 1);
    }

    private String statement() {
        switch (random.nextInt(10)) {
            case 0: case 1: case 2: return "p" + digit(7) + digit(9) + digit(5) + ";";
            case 3: return "w" + digit(5) + digit(5) + digit(9) + ";";
            case 4: return "s" + digit(5) + digit(5) + ";";
            case 5: return "k" + digit(5) + (1 + random.nextInt(9)) + ";";
            case 6: return "g" + random.nextInt(random.nextBoolean() ? 10 : 20) + ";";
            case 7: return "m" + random.nextInt(2) + digit(5) + ";";
            case 8: return "h;";
            default: return random.nextInt(3) == 0 ? "u;" : "h;";
        }
    }

    private int readText() {
        StringBuilder text = new StringBuilder();
        for (int i = random.nextInt(7); i >= 0; i--) {
            text.append(statement());
        }
        int at = random.nextInt(text.length());
        switch (random.nextInt(6)) {
            case 0: text.setCharAt(at, "pwskgmhu;0159x".charAt(random.nextInt(14))); break;
            case 1: text.setLength(at); break;
            case 2: text.deleteCharAt(at); break;
            default: break;
        }
        int d = random.nextInt(3);
        due("row", x.row(d, 0, text.length()), m.row(d, 0, text.length()));
        for (int i = 0; i < text.length(); i++) {
            due("put", x.put(d, i, text.charAt(i)), m.put(d, i, text.charAt(i)));
        }
        due("office(" + text + ")", x.office(d), m.office(d));
        return text.length() + 2;
    }

    private void change(int call) {
        int a = upTo(7);
        int b = upTo(5);
        int c = upTo(9);
        switch (call) {
            case 0: due("comes", x.comes(a, b), m.comes(a, b)); break;
            case 1: a = pen(); due("move", x.move(a, b), m.move(a, b)); break;
            case 2: a = upTo(5); due("way", x.way(a, b, c), m.way(a, b, c)); break;
            case 3: a = upTo(2); due("set", x.set(b, a, c), m.set(b, a, c)); break;
            case 4: a = upTo(random.nextInt(9) == 0 ? 99 : 4);
                due("hours", x.hours(a), m.hours(a)); break;
            case 5: due("image", x.image(), m.image()); break;
            case 6: if (random.nextInt(4) == 0) {
                due("restore", x.restore(), m.restore());
            } break;
            case 7: b = upTo(1); int k = upTo(7);
                due("keep", x.keep(a, b, k, c), m.keep(a, b, k, c)); break;
            case 8: b = upTo(2); c = random.nextInt(4) == 0 ? upTo(100) : 6;
                due("row", x.row(a, b, c), m.row(a, b, c)); break;
            case 9: case 10: case 11: c = random.nextInt(5) == 0 ? random.nextInt() : upTo(3);
                due("put", x.put(a, b, c), m.put(a, b, c)); break;
            case 12: int e = upTo(7); int j = upTo(5); c = upTo(4);
                due("copy", x.copy(a, b, e, j, c), m.copy(a, b, e, j, c)); break;
            default: due("office", x.office(a), m.office(a)); break;
        }
    }

    private void ask(int call) {
        int pen = pen();
        int b = upTo(5);
        int n = upTo(8);
        int part = upTo(1);
        int kind = upTo(7);
        int figure = upTo(9);
        switch (call) {
            case 14: due("pen", x.pen(pen, b), m.pen(pen, b)); break;
            case 15: due("draw", x.draw(pen, b), m.draw(pen, b)); break;
            case 16: due("odds", x.odds(pen, b, n, part), m.odds(pen, b, n, part)); break;
            case 17: due("mean", x.mean(b, n, part), m.mean(b, n, part)); break;
            case 18: due("stays", x.stays(pen, n, part), m.stays(pen, n, part)); break;
            case 19: n = upTo(20); due("can", x.can(pen, n), m.can(pen, n)); break;
            case 20: n = upTo(20); due("whose", x.whose(b, n), m.whose(b, n)); break;
            case 21: due("sink", x.sink(part), m.sink(part)); break;
            case 22: n = upTo(50); due("heap", x.heap(n, part), m.heap(n, part)); break;
            case 23: int from = upTo(5); int wanted = upTo(random.nextInt(3) == 0 ? 99 : 6);
                due("buy", x.buy(kind, figure, from, b, n, wanted),
                    m.buy(kind, figure, from, b, n, wanted)); break;
            case 24: due("lay", x.lay(kind, figure, b, n), m.lay(kind, figure, b, n)); break;
            default: due("bestKind", x.bestKind(pen, n), m.bestKind(pen, n)); break;
        }
    }

    private void askMore(int call) {
        int pen = pen();
        int place = upTo(5);
        int n = upTo(8);
        int d = upTo(7);
        switch (call) {
            case 26: n = upTo(20); if (random.nextBoolean()) {
                tellCounts(d);
            }
                due("counts", x.counts(d, n), m.counts(d, n)); break;
            case 27: due("collect", x.collect(), m.collect()); break;
            case 28: due("collected", x.collected(place), m.collected(place)); break;
            case 29: due("sign", x.sign(place, n), m.sign(place, n)); break;
            case 30: n = upTo(9); due("keeps", x.keeps(place, n), m.keeps(place, n)); break;
            case 31: due("lent", x.lent(pen), m.lent(pen)); break;
            case 32: n = upTo(40); int z = random.nextInt(); int what = upTo(1);
                due("seeded(" + z, x.seeded(n, z, place, what), m.seeded(n, z, place, what));
                break;
            case 33: due("judge", x.judge(pen, d), m.judge(pen, d)); break;
            case 34: due("count", x.count(place), m.count(place)); break;
            default:
                due("element", Checks.element(x, d, place), m.element(d, place));
                due("cost", x.cost(d), m.cost(d));
                due("toss", x.toss(d), m.toss(d)); break;
        }
    }

    /** Counts of as many pens as there are, so that there may be ways for them. */
    private void tellCounts(int d) {
        int sort = random.nextInt(3);
        due("row", x.row(d, sort, 6), m.row(d, sort, 6));
        int[] there = new int[6];
        for (int[] pen : m.pens) {
            there[random.nextInt(4) == 0 ? random.nextInt(6) : pen[2]]++;
        }
        for (int i = 0; i < 6; i++) {
            due("put", x.put(d, i, there[i]), m.put(d, i, there[i]));
        }
    }
}
