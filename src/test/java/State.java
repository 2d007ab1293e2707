import java.util.LinkedHashMap;
import java.util.Map;
import java.util.Set;
import java.util.TreeSet;

/** All that an object tells of itself, name by name. To ask changes the object: so ask it last. */
final class State {
    private static final int NO_ELEMENT = 1002;
    private static final int WIDE = 100000;

    private State() {
    }

    /** Some 220 calls: with what a test makes ahead of it, an object stays under its 512. */
    static Map<String, Long> of(PensGo x) {
        Map<String, Long> all = new LinkedHashMap<>();
        tellOffice(x, "", all);
        for (int d = 0; d < 8; d++) {
            tellShelf(x, d, all);
        }
        all.put("IMAGE", (long) x.restore());
        tellOffice(x, "IMAGE's ", all);
        return all;
    }

    /** Each name whose number is another one behind, with that number, and each that is gone. */
    static Set<String> unlike(Map<String, Long> before, Map<String, Long> behind) {
        Set<String> all = new TreeSet<>();
        for (Map.Entry<String, Long> one : behind.entrySet()) {
            if (!one.getValue().equals(before.get(one.getKey()))) {
                all.add(one.getKey() + "=" + one.getValue());
            }
        }
        for (String name : before.keySet()) {
            if (!behind.containsKey(name)) {
                all.add(name + " is gone");
            }
        }
        return all;
    }

    private static void tellOffice(PensGo x, String whose, Map<String, Long> all) {
        for (int what = 0; what < 5; what++) {
            all.put(whose + "count " + what, (long) x.count(what));
        }
        for (int i = 0; i < 10 && x.pen(i, 0) != -1; i++) {
            all.put(whose + "KIND of " + i, (long) x.pen(i, 0));
            all.put(whose + "FIGURE of " + i, (long) x.pen(i, 1));
            all.put(whose + "PLACE of " + i, (long) x.pen(i, 2));
        }
        for (int p = 0; p < 6; p++) {
            for (int q = 0; q < 6; q++) {
                if (p != q) {
                    all.put(whose + "WAY " + p + q, (long) x.way(p, q, 0));
                }
            }
            all.put(whose + "HOLD " + p, (long) x.set(p, 0, 0));
            all.put(whose + "WALK " + p, (long) x.set(p, 1, 1));
        }
        all.put(whose + "PULL", (long) x.set(0, 2, 5));
    }

    private static void tellShelf(PensGo x, int d, Map<String, Long> all) {
        all.put("COST " + d, (long) x.cost(d));
        all.put("FAILURE " + d, (long) x.toss(d));
        for (int i = 0; Checks.element(x, d, i) != NO_ELEMENT; i++) {
            all.put("ELEMENT " + d + " " + i, Checks.element(x, d, i));
        }
        if (x.put(d, 0, WIDE) == 0) {
            all.put("WIDE in " + d, Checks.element(x, d, 0));
        }
    }
}
