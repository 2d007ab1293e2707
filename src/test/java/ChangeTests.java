import java.util.Arrays;
import java.util.Map;
import java.util.Set;
import java.util.TreeSet;

/** What each call changes, to the last number; and that those which only ask change nothing. */
public final class ChangeTests {
    private static final Checks CHECKS = new Checks();
    private static final Map<String, Long> FEW = State.of(Worlds.few());

    private interface Call {
        long on(PensGo x);
    }

    private ChangeTests() {
    }

    public static void main(String[] args) {
        offices();
        hours();
        texts();
        image();
        shelves();
        whoAskChangeNothing();
        objectsAreTwo();
        CHECKS.end();
    }

    private static void due(String call, long got, long want) {
        CHECKS.due(call, got, want);
    }

    /** The call on Worlds.few answers want; behind it these, and these alone, are other numbers. */
    private static void changes(String call, Call c, long want, String... told) {
        PensGo x = Worlds.few();
        due(call, c.on(x), want);
        Set<String> unlike = State.unlike(FEW, State.of(x));
        boolean asTold = unlike.equals(new TreeSet<>(Arrays.asList(told)));
        due(call + " changed " + unlike, asTold ? 0 : 1, 0);
    }

    private static void offices() {
        changes("NAMED 3 comes", x -> x.comes(7, 3), 3, "KIND of 3=5", "FIGURE of 3=3",
            "PLACE of 3=3", "count 0=4", "count 2=45", "count 4=45");
        changes("a pen is moved", x -> x.move(0, 5), 0, "PLACE of 0=5", "count 4=36");
        changes("to where it is", x -> x.move(2, 5), 5);
        changes("a way", x -> x.way(3, 4, 9), 0, "WAY 34=9", "count 3=28");
        changes("a way back", x -> x.way(1, 0, 2), 0, "WAY 10=2", "count 3=21");
        changes("no way more", x -> x.way(0, 1, 0), 9, "WAY 01=0", "count 3=10");
        changes("the same way", x -> x.way(1, 2, 9), 9);
        changes("a hold", x -> x.set(3, 0, 9), 0, "HOLD 3=9");
        changes("no hold more", x -> x.set(1, 0, 0), 3, "HOLD 1=0");
        changes("a walk", x -> x.set(3, 1, 9), 1, "WALK 3=9");
        changes("the least walk", x -> x.set(4, 1, 1), 4, "WALK 4=1");
        changes("the pull", x -> x.set(3, 2, 99), 5, "PULL=99");
        changes("the least pull", x -> x.set(0, 2, 1), 5, "PULL=1");
    }

    private static void hours() {
        // HOMED 9 is drawn from 0 to 1 by 18 and to 3 by 10; from 1 to 2 by 12, HOLD being 3.
        changes("an hour", x -> x.hours(1), 3, "PLACE of 0=1", "count 1=3", "count 4=38");
        changes("two hours", x -> x.hours(2), 4, "PLACE of 0=2", "count 1=4", "count 4=36");
        changes("two hours, one by one", x -> x.hours(1) + x.hours(1), 7, "PLACE of 0=2",
            "count 1=4", "count 4=36");
        changes("99 hours", x -> x.hours(99), 101, "PLACE of 0=3", "count 1=101", "count 4=44");
    }

    private static void texts() {
        changes("the text again", x -> x.office(0), 6, "count 1=3");
        changes("a pen more", x -> readOnFive(x, "p603;"), 1, "KIND of 3=6", "FIGURE of 3=0",
            "PLACE of 3=3", "count 0=4", "count 4=45", "ELEMENT 5 0=112", "ELEMENT 5 1=54",
            "ELEMENT 5 2=48", "ELEMENT 5 3=51", "ELEMENT 5 4=59", "WIDE in 5=-96");
        changes("the last is no more", x -> readOnFive(x, "u;"), 1, "count 0=2", "count 2=33",
            "count 4=5", "KIND of 2 is gone", "FIGURE of 2 is gone", "PLACE of 2 is gone",
            "ELEMENT 5 0=117", "ELEMENT 5 1=59", "WIDE in 5=-96");
        changes("a way, hold, walk, pull", x -> readOnFive(x, "w341;s01;k52;g10;"), 4, "WAY 34=1",
            "HOLD 0=1", "WALK 5=2", "PULL=10", "count 3=20", "ELEMENT 5 0=119", "ELEMENT 5 1=51",
            "ELEMENT 5 2=52", "ELEMENT 5 3=49", "ELEMENT 5 4=59", "ELEMENT 5 5=115",
            "ELEMENT 5 6=48", "ELEMENT 5 7=49", "ELEMENT 5 8=59", "ELEMENT 5 9=107",
            "ELEMENT 5 10=53", "ELEMENT 5 11=50", "ELEMENT 5 12=59", "ELEMENT 5 13=103",
            "ELEMENT 5 14=49", "ELEMENT 5 15=48", "ELEMENT 5 16=59", "WIDE in 5=-96");
    }

    private static int readOnFive(PensGo x, String text) {
        Checks.lay(x, 5, text);
        return x.office(5);
    }

    private static void image() {
        PensGo x = Worlds.few();
        due("image()", x.image(), 3);
        Map<String, Long> now = State.of(x);
        for (Map.Entry<String, Long> one : FEW.entrySet()) {
            String name = one.getKey();
            if (name.startsWith("IMAGE's ")) {
                due("taken, " + name, now.get(name), FEW.get(name.substring(8)));
            } else {
                due("as ahead of it, " + name, now.get(name), one.getValue());
            }
        }
        PensGo y = Worlds.few();
        due("restore()", y.restore(), 3);
        Map<String, Long> then = State.of(y);
        for (Map.Entry<String, Long> one : FEW.entrySet()) {
            String name = one.getKey();
            boolean ofOffice = FEW.containsKey("IMAGE's " + name);
            due("restored, " + name, then.get(name), FEW.get(ofOffice ? "IMAGE's " + name : name));
        }
    }

    private static void shelves() {
        changes("HOMED 2 is kept", x -> x.keep(6, 1, 7, 2), 0, "COST 6=18", "FAILURE 6=2");
        changes("another pen is kept", x -> x.keep(1, 1, 3, 8), 0, "COST 1=6", "FAILURE 1=108");
        changes("nothing in place of a pen", x -> x.keep(1, 0, 7, 9), 0, "COST 1=-11",
            "FAILURE 1=-11");
        changes("nothing in place of a row", x -> x.keep(4, 0, 7, 9), 0, "COST 4=-11",
            "FAILURE 4=-11", "ELEMENT 4 0 is gone", "ELEMENT 4 1 is gone", "ELEMENT 4 2 is gone",
            "ELEMENT 4 3 is gone", "ELEMENT 4 4 is gone", "WIDE in 4 is gone");
        changes("nothing in place of nothing", x -> x.keep(6, 0, 0, 0), 0);
        changes("shorts in place of a pen", x -> x.row(1, 1, 2), 0, "COST 1=-12", "FAILURE 1=-12",
            "ELEMENT 1 0=0", "ELEMENT 1 1=0", "WIDE in 1=-31072");
        changes("a new row is all 0", x -> x.row(4, 2, 5), 0, "ELEMENT 4 0=0", "ELEMENT 4 1=0",
            "ELEMENT 4 2=0", "ELEMENT 4 3=0", "ELEMENT 4 4=0");
        changes("an element", x -> x.put(3, 5, -7), 0, "ELEMENT 3 5=-7");
        changes("the first of all", x -> x.put(2, 0, 65536 + 9), 0, "ELEMENT 2 0=9");
        changes("copied to another row", x -> x.copy(3, 1, 4, 3, 2), 2, "ELEMENT 4 3=1",
            "ELEMENT 4 4=2");
        changes("copied up in its row", x -> x.copy(3, 0, 3, 1, 5), 5, "ELEMENT 3 1=0",
            "ELEMENT 3 2=1", "ELEMENT 3 3=2", "ELEMENT 3 4=3", "ELEMENT 3 5=4");
        changes("copied down in its row", x -> x.copy(3, 1, 3, 0, 5), 5, "ELEMENT 3 0=1",
            "ELEMENT 3 1=2", "ELEMENT 3 2=3", "ELEMENT 3 3=4", "ELEMENT 3 4=5");
        changes("copied onto itself", x -> x.copy(3, 1, 3, 1, 5), 5);
        changes("none copied", x -> x.copy(3, 0, 4, 0, 0), 0);
        changes("none copied at both ends", x -> x.copy(3, 6, 4, 5, 0), 0);
        changes("none copied in an empty row", x -> x.copy(5, 0, 5, 0, 0), 0);
    }

    private static void whoAskChangeNothing() {
        changes("pen", x -> x.pen(0, 3) + x.pen(0, 4) + x.pen(0, 5), 31 + 1 + 72);
        changes("draw", x -> x.draw(0, 1), 18);
        changes("odds", x -> x.odds(0, 0, 8, 1) < 0 ? 1 : 0, 0);
        changes("mean", x -> x.mean(0, 8, 1) < 0 ? 1 : 0, 0);
        changes("stays", x -> x.stays(0, 1, 0), 18);
        changes("can", x -> x.can(0, 20), 15);
        changes("whose", x -> x.whose(2, 20), 3);
        changes("sink", x -> x.sink(0) * 10 + x.sink(1), 20);
        changes("heap", x -> x.heap(50, 0) * 10 + x.heap(50, 1), 21);
        changes("buy", x -> x.buy(4, 0, 0, 0, 8, 99), 99);
        changes("lay", x -> x.lay(4, 0, 3, 8), 3);
        changes("bestKind", x -> x.bestKind(0, 8), 3);
        changes("counts", x -> x.counts(2, 0), 1);
        changes("collect", PensGo::collect, 1 + 2 + 9);
        changes("collected", x -> x.collected(0) + x.collected(1) + x.collected(2), 7);
        changes("sign", x -> x.sign(5, 8), 1);
        changes("keeps", x -> x.keeps(0, 9), 1);
        changes("lent", x -> x.lent(0), -4);
        changes("seeded", x -> x.seeded(40, 7, 4, 0), 0);
        changes("judge", x -> x.judge(1, 2), 0);
        changes("count", x -> x.count(2), 35);
        changes("element", x -> Checks.element(x, 3, 5), 5);
        changes("cost", x -> x.cost(1), 32);
        changes("toss", x -> x.toss(7), 210);
    }

    private static void objectsAreTwo() {
        PensGo one = Worlds.few();
        PensGo other = new PensGo();
        other.way(0, 1, 3);
        due("no image of the other's", other.restore(), -3);
        due("no shelf of the other's", other.cost(1), -11);
        due("no pen of the other's", other.count(0), 0);
        due("all is as it was", State.unlike(FEW, State.of(one)).size(), 0);
    }
}
