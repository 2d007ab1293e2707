import java.util.Map;

/**
 * Each number that a call is told, from the first that is too small to the first that is too
 * large; each refusal, which comes first where several fit, and that nothing has changed behind it.
 */
public final class RangeTests {
    private static final Checks CHECKS = new Checks();
    private static final int LEAST = Integer.MIN_VALUE;
    private static final int MOST = Integer.MAX_VALUE;
    private static final int STARRED = -1000000001;
    private static final int NO_SHELF = 1001;
    private static final int NO_ELEMENT = 1002;
    private static final Map<String, Long> FEW = State.of(Worlds.few());
    private static final Map<String, Long> FULL = State.of(Worlds.full());
    private static final Map<String, Long> NEW = State.of(new PensGo());

    private interface Call {
        long on(PensGo x);
    }

    private interface Told {
        long on(PensGo x, int v);
    }

    private RangeTests() {
    }

    public static void main(String[] args) {
        promises2To9Ranges();
        promises10To16Ranges();
        promises17To19Ranges();
        promises20To27Ranges();
        promises30To34Ranges();
        promises35To37Ranges();
        promise2Refusals();
        promise4Refusals();
        promise8Refusals();
        promise20Refusals();
        promise27Refusals();
        promise29Refusals();
        promises31And32Refusals();
        promise33Refusals();
        promise34Refusals();
        promise35NothingHeld();
        promise35OtherHeld();
        promise35NoSuchPlace();
        promises36And37Refusals();
        noSuchPenInANewObject();
        tenPensAndNoMore();
        CHECKS.end();
    }

    private static void due(String call, long got, long want) {
        CHECKS.due(call, got, want);
    }

    /** The call on x, which was as world tells, answers want and changes nothing. */
    private static void refusedIn(PensGo x, Map<String, Long> world, String call, Call c,
            long want) {
        due(call, c.on(x), want);
        String unlike = State.unlike(world, State.of(x)).toString();
        due(call + " is refused and changed " + unlike, unlike.equals("[]") ? 0 : 1, 0);
    }

    /** The call on Worlds.few is refused, and nothing has changed. */
    private static void refused(String call, Call c, long want) {
        refusedIn(Worlds.few(), FEW, call, c, want);
    }

    /** The call on Worlds.full is refused, and nothing has changed. */
    private static void refusedIfFull(String call, Call c, long want) {
        refusedIn(Worlds.full(), FULL, call, c, want);
    }

    /** The call on a new object is refused, and nothing has changed. */
    private static void refusedIfNew(String call, Call c, long want) {
        refusedIn(new PensGo(), NEW, call, c, want);
    }

    /** Every v from least to most is taken; the next on either side, and the ends, are refused. */
    private static void range(String call, int least, int most, long refusal, Told told) {
        int[] beyond = {least - 1, most + 1, LEAST, MOST};
        for (int v : beyond) {
            refused(call + ", v " + v, x -> told.on(x, v), refusal);
        }
        for (int v = least; v <= most; v++) {
            long answer = told.on(Worlds.few(), v);
            due(call + " is refused, v " + v, answer == refusal ? 1 : 0, 0);
        }
    }

    // ---- offices

    private static void promises2To9Ranges() {
        range("office(v)", 0, 7, -1, (x, v) -> x.office(v));
        range("pen(v, 0)", 0, 2, -1, (x, v) -> x.pen(v, 0));
        range("pen(0, v)", 0, 5, -1, (x, v) -> x.pen(0, v));
        range("comes(v, 0)", 0, 7, -1, (x, v) -> x.comes(v, 0));
        range("comes(1, v)", 0, 5, -1, (x, v) -> x.comes(1, v));
        range("move(v, 0)", 0, 2, -1, (x, v) -> x.move(v, 0));
        range("move(0, v)", 0, 5, -1, (x, v) -> x.move(0, v));
        for (int p = 0; p < 6; p++) {
            int place = p;
            refused("way of " + p + " to itself", x -> x.way(place, place, 1), -1);
        }
        range("way(v, 0, 1)", 1, 5, -1, (x, v) -> x.way(v, 0, 1));
        range("way(v, 5, 1)", 0, 4, -1, (x, v) -> x.way(v, 5, 1));
        range("way(0, v, 1)", 1, 5, -1, (x, v) -> x.way(0, v, 1));
        range("way(5, v, 1)", 0, 4, -1, (x, v) -> x.way(5, v, 1));
        range("way(0, 1, v)", 0, 9, -1, (x, v) -> x.way(0, 1, v));
        range("set(v, 0, 1)", 0, 5, -1, (x, v) -> x.set(v, 0, 1));
        range("set(v, 1, 1)", 0, 5, -1, (x, v) -> x.set(v, 1, 1));
        range("set(v, 2, 1)", 0, 5, -1, (x, v) -> x.set(v, 2, 1));
        range("set(0, v, 1)", 0, 2, -1, (x, v) -> x.set(0, v, 1));
        range("set(0, 0, v)", 0, 9, -1, (x, v) -> x.set(0, 0, v));
        range("set(0, 1, v)", 1, 9, -1, (x, v) -> x.set(0, 1, v));
        range("set(0, 2, v)", 1, 99, -1, (x, v) -> x.set(0, 2, v));
        range("hours(v)", 1, 99, -1, (x, v) -> x.hours(v));
        range("draw(v, 0)", 0, 2, -1, (x, v) -> x.draw(v, 0));
        range("draw(0, v)", 0, 5, -1, (x, v) -> x.draw(0, v));
    }

    // ---- where they are then

    private static void promises10To16Ranges() {
        range("odds(v, 0, 1, 0)", 0, 2, -1, (x, v) -> x.odds(v, 0, 1, 0));
        range("odds(0, v, 1, 0)", 0, 5, -1, (x, v) -> x.odds(0, v, 1, 0));
        range("odds(0, 0, v, 0)", 0, 8, -1, (x, v) -> x.odds(0, 0, v, 0));
        range("odds(0, 0, 1, v)", 0, 1, -1, (x, v) -> x.odds(0, 0, 1, v));
        range("mean(v, 1, 0)", 0, 5, -1, (x, v) -> x.mean(v, 1, 0));
        range("mean(0, v, 0)", 0, 8, -1, (x, v) -> x.mean(0, v, 0));
        range("mean(0, 1, v)", 0, 1, -1, (x, v) -> x.mean(0, 1, v));
        range("stays(v, 1, 0)", 0, 2, -1, (x, v) -> x.stays(v, 1, 0));
        range("stays(0, v, 0)", 0, 8, -1, (x, v) -> x.stays(0, v, 0));
        range("stays(0, 1, v)", 0, 1, -1, (x, v) -> x.stays(0, 1, v));
        range("can(v, 1)", 0, 2, -1, (x, v) -> x.can(v, 1));
        range("can(0, v)", 0, 20, -1, (x, v) -> x.can(0, v));
        range("whose(v, 1)", 0, 5, -1, (x, v) -> x.whose(v, 1));
        range("whose(0, v)", 0, 20, -1, (x, v) -> x.whose(0, v));
        range("sink(v)", 0, 1, -1, (x, v) -> x.sink(v));
        range("heap(v, 0)", 0, 50, -1, (x, v) -> x.heap(v, 0));
        range("heap(0, v)", 0, 1, -1, (x, v) -> x.heap(0, v));
    }

    // ---- to buy, to lay

    private static void promises17To19Ranges() {
        range("buy(v, 0, 0, 0, 0, 1)", 0, 7, -1, (x, v) -> x.buy(v, 0, 0, 0, 0, 1));
        range("buy(0, v, 0, 0, 0, 1)", 0, 9, -1, (x, v) -> x.buy(0, v, 0, 0, 0, 1));
        range("buy(0, 0, v, 0, 0, 1)", 0, 5, -1, (x, v) -> x.buy(0, 0, v, 0, 0, 1));
        range("buy(0, 0, 0, v, 0, 1)", 0, 5, -1, (x, v) -> x.buy(0, 0, 0, v, 0, 1));
        range("buy(0, 0, 0, 0, v, 1)", 0, 8, -1, (x, v) -> x.buy(0, 0, 0, 0, v, 1));
        range("buy(0, 0, 0, 0, 0, v)", 1, 99, -1, (x, v) -> x.buy(0, 0, 0, 0, 0, v));
        range("lay(v, 0, 0, 1)", 0, 7, -1, (x, v) -> x.lay(v, 0, 0, 1));
        range("lay(0, v, 0, 1)", 0, 9, -1, (x, v) -> x.lay(0, v, 0, 1));
        range("lay(0, 0, v, 1)", 0, 5, -1, (x, v) -> x.lay(0, 0, v, 1));
        range("lay(0, 0, 0, v)", 0, 8, -1, (x, v) -> x.lay(0, 0, 0, v));
        range("bestKind(v, 1)", 0, 2, -1, (x, v) -> x.bestKind(v, 1));
        range("bestKind(0, v)", 0, 8, -1, (x, v) -> x.bestKind(0, v));
    }

    // ---- counts, collecting, signs, seeds, told places

    private static void promises20To27Ranges() {
        range("counts(v, 0)", 0, 7, -1, (x, v) -> x.counts(v, 0));
        range("counts(2, v)", 0, 20, -1, (x, v) -> x.counts(2, v));
        range("collected(v)", 0, 2, -4, (x, v) -> x.collected(v));
        range("sign(v, 1)", 0, 5, STARRED, (x, v) -> x.sign(v, 1));
        range("sign(0, v)", 0, 8, STARRED, (x, v) -> x.sign(0, v));
        range("keeps(v, 1)", 0, 5, -1, (x, v) -> x.keeps(v, 1));
        range("keeps(0, v)", 1, 9, -1, (x, v) -> x.keeps(0, v));
        range("lent(v)", 0, 2, -1, (x, v) -> x.lent(v));
        range("seeded(v, 1, 0, 0)", 1, 40, -1, (x, v) -> x.seeded(v, 1, 0, 0));
        range("seeded(1, 1, v, 0)", 0, 5, -1, (x, v) -> x.seeded(1, 1, v, 0));
        range("seeded(1, 1, 0, v)", 0, 1, -1, (x, v) -> x.seeded(1, 1, 0, v));
        for (int z : new int[] {LEAST, -1, 0, 1, MOST}) {
            due("any seed, " + z, Worlds.few().seeded(40, z, 0, 0) < 0 ? 1 : 0, 0);
        }
        range("judge(v, 2)", 0, 2, -1, (x, v) -> x.judge(v, 2));
        range("judge(0, v)", 0, 7, -1, (x, v) -> x.judge(0, v));
    }

    // ---- what is told, shelves

    private static void promises30To34Ranges() {
        range("count(v)", 0, 4, -1, (x, v) -> x.count(v));
        range("keep(v, 0, 0, 0)", 0, 7, -1, (x, v) -> x.keep(v, 0, 0, 0));
        range("keep(v, 1, 0, 0)", 0, 7, -1, (x, v) -> x.keep(v, 1, 0, 0));
        range("keep(0, v, 0, 0)", 0, 1, -1, (x, v) -> x.keep(0, v, 0, 0));
        range("keep(0, 1, v, 0)", 0, 7, -1, (x, v) -> x.keep(0, 1, v, 0));
        range("keep(0, 1, 0, v)", 0, 9, -1, (x, v) -> x.keep(0, 1, 0, v));
        range("row(v, 0, 1)", 0, 7, -1, (x, v) -> x.row(v, 0, 1));
        range("row(0, v, 1)", 0, 2, -1, (x, v) -> x.row(0, v, 1));
        refused("row(0, 0, 101)", x -> x.row(0, 0, 101), -1);
        refused("row(0, 2, MOST)", x -> x.row(0, 2, MOST), -1);
        refused("row(0, 0, -1)", x -> x.row(0, 0, -1), -14);
        refused("row(0, 2, LEAST)", x -> x.row(0, 2, LEAST), -14);
        for (int n = 0; n <= 100; n++) {
            due("row(0, 1, " + n + ")", Worlds.few().row(0, 1, n), 0);
        }
        range("put(v, 0, 1)", 0, 7, -1, (x, v) -> x.put(v, 0, 1));
        range("put(3, v, 1)", 0, 5, -13, (x, v) -> x.put(3, v, 1));
        range("element(v, 0)", 0, 7, NO_SHELF, (x, v) -> Checks.element(x, v, 0));
        range("element(3, v)", 0, 5, NO_ELEMENT, (x, v) -> Checks.element(x, 3, v));
    }

    private static void promises35To37Ranges() {
        range("copy(v, 0, 3, 0, 1)", 0, 7, -1, (x, v) -> x.copy(v, 0, 3, 0, 1));
        range("copy(3, 0, v, 0, 1)", 0, 7, -1, (x, v) -> x.copy(3, 0, v, 0, 1));
        range("copy(3, v, 4, 0, 1)", 0, 5, -13, (x, v) -> x.copy(3, v, 4, 0, 1));
        range("copy(3, v, 4, 0, 4)", 0, 2, -13, (x, v) -> x.copy(3, v, 4, 0, 4));
        range("copy(3, 0, 4, v, 1)", 0, 4, -13, (x, v) -> x.copy(3, 0, 4, v, 1));
        range("copy(3, 0, 4, v, 4)", 0, 1, -13, (x, v) -> x.copy(3, 0, 4, v, 4));
        range("copy(3, 0, 4, 0, v)", 0, 5, -13, (x, v) -> x.copy(3, 0, 4, 0, v));
        range("copy(4, 0, 3, 0, v)", 0, 5, -13, (x, v) -> x.copy(4, 0, 3, 0, v));
        range("copy(3, 2, 3, 2, v)", 0, 4, -13, (x, v) -> x.copy(3, 2, 3, 2, v));
        range("cost(v)", 0, 7, -1, (x, v) -> x.cost(v));
        range("toss(v)", 0, 7, -1, (x, v) -> x.toss(v));
    }

    // ---- several refusals: the first as they are told at the call

    private static void promise2Refusals() {
        refused("office of nothing", x -> x.office(6), -11);
        refused("office of a pen", x -> x.office(1), -12);
        refused("office of shorts", x -> x.office(2), -12);
        refused("office of ints", x -> x.office(3), -12);
        refused("office of no bytes", x -> x.office(5), -1000);
        refusedIfFull("no room ahead of an hour too many", x -> x.office(0), -2000);
    }

    private static void promise4Refusals() {
        refused("-1 (shelf) with -1 (place)", x -> x.comes(8, 6), -1);
        refused("-1 ahead of -11", x -> x.comes(6, 6), -1);
        refused("-1 ahead of -12", x -> x.comes(2, -1), -1);
        refused("nothing held", x -> x.comes(6, 0), -11);
        refused("bytes", x -> x.comes(0, 0), -12);
        refused("shorts", x -> x.comes(2, 0), -12);
        refused("ints", x -> x.comes(3, 0), -12);
        refused("no bytes", x -> x.comes(5, 0), -12);
        refusedIfFull("-1 (place) ahead of -2", x -> x.comes(1, 6), -1);
        refusedIfFull("-1 (shelf) ahead of -2", x -> x.comes(8, 0), -1);
        refusedIfFull("-11 ahead of -2", x -> x.comes(6, 0), -11);
        refusedIfFull("-12 ahead of -2", x -> x.comes(2, 0), -12);
        refusedIfFull("no room", x -> x.comes(1, 0), -2);
    }

    private static void promise8Refusals() {
        refusedIfFull("hour 1000", x -> x.hours(1), -2);
        refusedIfFull("99 hours above 999", x -> x.hours(99), -2);
        refusedIfFull("-1 (too few) ahead of -2", x -> x.hours(0), -1);
        refusedIfFull("-1 (too many) ahead of -2", x -> x.hours(100), -1);
        refusedIfFull("the greatest number of hours", x -> x.hours(MOST), -1);
        refusedIfFull("the least number of hours", x -> x.hours(LEAST), -1);
    }

    private static void promise20Refusals() {
        refused("-1 (shelf) with -1 (hours)", x -> x.counts(8, 21), -1);
        refused("-1 ahead of -11", x -> x.counts(6, 21), -1);
        refused("-1 ahead of -12", x -> x.counts(1, -1), -1);
        refused("-1 ahead of -13", x -> x.counts(4, 21), -1);
        refused("nothing held", x -> x.counts(6, 0), -11);
        refused("a pen", x -> x.counts(1, 0), -12);
        refused("five elements", x -> x.counts(4, 0), -13);
        refused("no elements", x -> x.counts(5, 0), -13);
        refused("22 elements", x -> x.counts(0, 0), -13);
        refusedIfFull("-1 (hours) ahead of -3", x -> x.counts(2, 21), -1);
        refusedIfFull("-1 (shelf) ahead of -3", x -> x.counts(-1, 0), -1);
        refusedIfFull("-11 ahead of -3", x -> x.counts(6, 0), -11);
        refusedIfFull("-12 ahead of -3", x -> x.counts(1, 0), -12);
        refusedIfFull("-13 ahead of -3", x -> x.counts(3, 0), -13);
        refusedIfFull("more than 6 PENS", x -> x.counts(2, 0), -3);
    }

    private static void promise27Refusals() {
        refused("-1 (pen) with -1 (shelf)", x -> x.judge(3, 8), -1);
        refused("-1 (pen) ahead of -11", x -> x.judge(3, 6), -1);
        refused("-1 (pen) ahead of -12", x -> x.judge(-1, 1), -1);
        refused("nothing held", x -> x.judge(0, 6), -11);
        refused("a pen", x -> x.judge(0, 1), -12);
    }

    private static void promise29Refusals() {
        refusedIfNew("no image", PensGo::restore, -3);
        refusedIfNew("no image, twice", x -> x.restore() + x.restore(), -6);
        PensGo x = Checks.made("p000;w019;");
        due("no image, but an office", x.restore(), -3);
        due("the pen is there", x.count(0), 1);
        due("the way is there", x.count(3), 9);
    }

    private static void promises31And32Refusals() {
        refused("no such shelf, what 0", x -> x.keep(8, 0, 0, 0), -1);
        refused("no such what, and all else", x -> x.keep(0, 2, 8, 10), -1);
        refused("no such kind and figure", x -> x.keep(0, 1, 8, 10), -1);
        due("what 0: the others do not matter", Worlds.few().keep(0, 0, LEAST, MOST), 0);
        due("nor beyond on the other side", Worlds.few().keep(0, 0, MOST, LEAST), 0);
        refused("-1 (shelf) ahead of -14", x -> x.row(8, 0, -1), -1);
        refused("-1 (sort) ahead of -14", x -> x.row(0, 3, -1), -1);
        refused("-1 (sort below 0) ahead of -14", x -> x.row(0, -1, LEAST), -1);
        refused("too many on no shelf", x -> x.row(-1, 3, 101), -1);
    }

    private static void promise33Refusals() {
        refused("-1 ahead of -13", x -> x.put(8, -1, 0), -1);
        refused("-11 ahead of -13", x -> x.put(6, -1, 0), -11);
        refused("-12 ahead of -13", x -> x.put(1, -1, 0), -12);
        refused("no elements", x -> x.put(5, 0, 0), -13);
        refused("a shelf of nothing", x -> x.put(6, 0, 0), -11);
        refused("a pen", x -> x.put(1, 0, 0), -12);
    }

    private static void promise34Refusals() {
        refused("no such shelf ahead of no such place", x -> Checks.element(x, 8, -1), NO_SHELF);
        refused("nothing held", x -> Checks.element(x, 6, 0), NO_ELEMENT);
        refused("a pen", x -> Checks.element(x, 1, 0), NO_ELEMENT);
        refused("no elements", x -> Checks.element(x, 5, 0), NO_ELEMENT);
        refusedIfNew("a new shelf", x -> Checks.element(x, 0, 0), NO_ELEMENT);
        refusedIfNew("behind the last shelf", x -> Checks.element(x, 8, 0), NO_SHELF);
    }

    private static void promise35NothingHeld() {
        refused("-1 (first) ahead of -11 (second)", x -> x.copy(8, 0, 6, 0, 0), -1);
        refused("-1 (second) ahead of -11 (first)", x -> x.copy(6, 0, 8, 0, 0), -1);
        refused("-1 (first) ahead of -12", x -> x.copy(-1, 0, 1, 0, 0), -1);
        refused("-1 (second) ahead of -12", x -> x.copy(1, 0, -1, 0, 0), -1);
        refused("-1 (first) ahead of -13", x -> x.copy(8, -1, 3, 0, -1), -1);
        refused("-1 (second) ahead of -13", x -> x.copy(3, -1, 8, 0, -1), -1);
        refused("nothing at the first", x -> x.copy(6, 0, 3, 0, 0), -11);
        refused("nothing at the second", x -> x.copy(3, 0, 6, 0, 0), -11);
        refused("nothing at either", x -> x.copy(6, 0, 6, 0, 0), -11);
        refused("-11 (first) ahead of -12", x -> x.copy(6, 0, 1, 0, 0), -11);
        refused("-11 (second) ahead of -12", x -> x.copy(1, 0, 6, 0, 0), -11);
        refused("-11 (first) ahead of -13", x -> x.copy(6, 0, 3, -1, -1), -11);
        refused("-11 (second) ahead of -13", x -> x.copy(3, 9, 6, 0, 9), -11);
    }

    private static void promise35OtherHeld() {
        refused("a pen at the first", x -> x.copy(1, 0, 3, 0, 0), -12);
        refused("a pen at the second", x -> x.copy(3, 0, 1, 0, 0), -12);
        refused("two pens", x -> x.copy(1, 0, 7, 0, 0), -12);
        refused("bytes to shorts", x -> x.copy(0, 0, 2, 0, 1), -12);
        refused("bytes to ints", x -> x.copy(0, 0, 3, 0, 1), -12);
        refused("shorts to bytes", x -> x.copy(2, 0, 0, 0, 1), -12);
        refused("shorts to ints", x -> x.copy(2, 0, 3, 0, 1), -12);
        refused("ints to bytes", x -> x.copy(3, 0, 0, 0, 1), -12);
        refused("ints to shorts", x -> x.copy(3, 0, 2, 0, 1), -12);
        refused("two sorts, of no elements", x -> x.copy(5, 0, 2, 0, 0), -12);
        refused("-12 (a pen) ahead of -13", x -> x.copy(1, -1, 3, 0, -1), -12);
        refused("-12 (two sorts) ahead of -13", x -> x.copy(2, 0, 3, 0, -1), -12);
        refused("-12 (two sorts) ahead of too far", x -> x.copy(2, 6, 3, 6, 1), -12);
    }

    private static void promise35NoSuchPlace() {
        refused("n below 0 at the ends", x -> x.copy(3, 6, 4, 5, -1), -13);
        refused("the least n", x -> x.copy(3, 0, 4, 0, LEAST), -13);
        refused("one behind the end of the first", x -> x.copy(3, 6, 4, 0, 1), -13);
        refused("one behind the end of the second", x -> x.copy(3, 0, 4, 5, 1), -13);
        refused("six to five", x -> x.copy(3, 0, 4, 0, 6), -13);
        refused("six from five", x -> x.copy(4, 0, 3, 0, 6), -13);
        refused("i and n wrap around", x -> x.copy(3, 1, 4, 0, MOST), -13);
        refused("j and n wrap around", x -> x.copy(3, 0, 4, 1, MOST), -13);
        refused("i and n wrap around to 0", x -> x.copy(3, LEAST, 4, 0, LEAST), -13);
        refused("the greatest i and one", x -> x.copy(3, MOST, 4, 0, 1), -13);
        refused("the greatest j and one", x -> x.copy(3, 0, 4, MOST, 1), -13);
        refused("one of no elements", x -> x.copy(5, 0, 0, 0, 1), -13);
        refused("one to no elements", x -> x.copy(0, 0, 5, 0, 1), -13);
        refused("none, from below 0", x -> x.copy(3, -1, 4, 0, 0), -13);
        refused("none, to below 0", x -> x.copy(3, 0, 4, -1, 0), -13);
        refused("none, from far behind", x -> x.copy(3, MOST, 4, 0, 0), -13);
        refused("none, to far behind", x -> x.copy(3, 0, 4, MOST, 0), -13);
    }

    private static void promises36And37Refusals() {
        refused("cost of nothing", x -> x.cost(6), -11);
        refused("cost of bytes", x -> x.cost(0), -12);
        refused("cost of shorts", x -> x.cost(2), -12);
        refused("cost of ints", x -> x.cost(3), -12);
        refused("cost of no bytes", x -> x.cost(5), -12);
        refused("toss of nothing", x -> x.toss(6), -11);
        refused("toss of bytes", x -> x.toss(0), -12);
        refused("toss of shorts", x -> x.toss(2), -12);
        refused("toss of ints", x -> x.toss(3), -12);
        refused("toss of no bytes", x -> x.toss(5), -12);
    }

    // ---- no pens at all, and as many as there may be

    private static void noSuchPenInANewObject() {
        refusedIfNew("new pen", x -> x.pen(0, 0), -1);
        refusedIfNew("new move", x -> x.move(0, 0), -1);
        refusedIfNew("new draw", x -> x.draw(0, 0), -1);
        refusedIfNew("new odds", x -> x.odds(0, 0, 0, 0), -1);
        refusedIfNew("new stays", x -> x.stays(0, 0, 0), -1);
        refusedIfNew("new can", x -> x.can(0, 0), -1);
        refusedIfNew("new bestKind", x -> x.bestKind(0, 0), -1);
        refusedIfNew("new collected", x -> x.collected(0), -4);
        refusedIfNew("new keeps", x -> x.keeps(0, 1), -4);
        refusedIfNew("new lent", x -> x.lent(0), -1);
        refusedIfNew("new judge, ahead of nothing held", x -> x.judge(0, 0), -1);
        refusedIfNew("new comes", x -> x.comes(0, 0), -11);
        refusedIfNew("new office", x -> x.office(0), -11);
    }

    private static void tenPensAndNoMore() {
        for (int beyond : new int[] {10, -1}) {
            refusedIfFull("full pen", x -> x.pen(beyond, 0), -1);
            refusedIfFull("full move", x -> x.move(beyond, 0), -1);
            refusedIfFull("full draw", x -> x.draw(beyond, 0), -1);
            refusedIfFull("full odds", x -> x.odds(beyond, 0, 0, 0), -1);
            refusedIfFull("full stays", x -> x.stays(beyond, 0, 0), -1);
            refusedIfFull("full can", x -> x.can(beyond, 0), -1);
            refusedIfFull("full bestKind", x -> x.bestKind(beyond, 0), -1);
            refusedIfFull("full lent", x -> x.lent(beyond), -1);
            refusedIfFull("full judge", x -> x.judge(beyond, 2), -1);
        }
        PensGo x = Worlds.full();
        due("the tenth is HOMED", x.pen(9, 0), 1);
        due("the tenth's FIGURE", x.pen(9, 1), 9);
        due("the tenth's PLACE", x.move(9, 5), 3);
        due("the tenth stays surely", x.odds(9, 5, 8, 0), 1);
        due("the tenth can be there alone", x.can(9, 20), 32);
    }
}
