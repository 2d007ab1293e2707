import java.util.Arrays;

/** An office of places between which pens of kinds go hour by hour. README.md tells the calls. */
public final class PensGo {
    private static final int PLACES = 6;
    private static final int MOST_PENS = 10;
    private static final int MOST_COUNTED = 6;
    private static final int SHELVES = 8;
    private static final int MOST_ELEMENTS = 100;
    private static final int LAST_HOUR = 999;
    private static final int WHOLE = 100;

    private static final int CHANCE_HOURS = 8;
    private static final int REACH_HOURS = 20;
    private static final int RULE_HOURS = 50;
    private static final int SEEDED_HOURS = 40;
    private static final int MOST_BOUGHT = 99;

    private static final int PEN = 0;
    private static final int GOOD = 1;
    private static final int FREE = 2;
    private static final int CHEWED = 3;
    private static final int CHAINED = 4;
    private static final int NAMED = 5;
    private static final int EMPTY = 6;
    private static final int HOMED = 7;

    private static final int BYTES = 0;
    private static final int SHORTS = 1;
    private static final int INTS = 2;

    private static final int NO_SUCH = -1;
    private static final int NO_ROOM = -2;
    private static final int NOT_NOW = -3;
    private static final int NONE = -4;
    private static final int NOTHING_HELD = -11;
    private static final int OTHER_HELD = -12;
    private static final int NO_ELEMENT = -13;
    private static final int SIZE_BELOW_ZERO = -14;
    private static final int NO_FAILURE = -15;
    private static final int STARRED = -1000000000;
    private static final int FORM_FAULT = -1000;
    private static final int SENSE_FAULT = -2000;

    private final Office office = new Office();
    private final Office draft = new Office();
    private final Office saved = new Office();
    private boolean hasImage;
    private final Outlook outlook = new Outlook(office);
    private final Pen[] pensHeld = new Pen[SHELVES];
    private final Row[] rowsHeld = new Row[SHELVES];

    // All calls of a run share one room: what a call needs to think is made once, here.
    private final int[] thereBy = new int[PLACES];
    private final int[] order = new int[PLACES];
    private final int[] reaches = new int[MOST_PENS];
    private final int[] inMind = new int[MOST_PENS];

    public PensGo() {
    }

    // ---- offices

    public int office(int d) {
        Row text = rowOn(d);
        if (text == null) {
            return whyNotHeld(d);
        }
        if (text.sort != BYTES) {
            return OTHER_HELD;
        }
        int bad = firstBadByte(text);
        if (bad != NONE) {
            return FORM_FAULT - bad;
        }
        draft.become(office);
        int statements = 0;
        int start = 0;
        for (int at = 0; at < text.size(); at++) {
            if (text.valueAt(at) == ';') {
                if (carryOut(text, start, at - start - 1) < 0) {
                    return SENSE_FAULT - start;
                }
                statements++;
                start = at + 1;
            }
        }
        office.become(draft);
        return statements;
    }

    public int pen(int pen, int what) {
        Pen one = office.penAt(pen);
        if (one == null) {
            return NO_SUCH;
        }
        int at = office.placeOf(pen);
        switch (what) {
            case 0: return one.kind;
            case 1: return one.figure;
            case 2: return at;
            case 3: return one.value();
            case 4: return office.ruleFrom(one, at);
            case 5: return office.drawOf(one, at, at);
            default: return NO_SUCH;
        }
    }

    public int comes(int d, int place) {
        if (!isPlace(place)) {
            return NO_SUCH;
        }
        Pen one = penOn(d);
        return one == null ? whyNotHeld(d) : office.addPen(one, place);
    }

    public int move(int pen, int place) {
        return office.movePen(pen, place);
    }

    public int way(int from, int to, int v) {
        return office.changeWay(from, to, v);
    }

    public int set(int place, int what, int v) {
        if (!isPlace(place)) {
            return NO_SUCH;
        }
        switch (what) {
            case 0: return office.changeHold(place, v);
            case 1: return office.changeWalk(place, v);
            case 2: return office.changePull(v);
            default: return NO_SUCH;
        }
    }

    public int hours(int n) {
        return isIn(n, 1, 99) ? office.passHours(n) : NO_SUCH;
    }

    public int draw(int pen, int place) {
        Pen one = office.penAt(pen);
        if (one == null || !isPlace(place)) {
            return NO_SUCH;
        }
        return office.drawOf(one, office.placeOf(pen), place);
    }

    // ---- where they are then

    public long odds(int pen, int place, int n, int part) {
        Pen one = office.penAt(pen);
        if (one == null || !isPlace(place) || !isIn(n, 0, CHANCE_HOURS) || !isPart(part)) {
            return NO_SUCH;
        }
        long above = outlook.partsAt(one, office.placeOf(pen), place, n);
        return fraction(above, power(WHOLE, n), part);
    }

    public long mean(int place, int n, int part) {
        if (!isPlace(place) || !isIn(n, 0, CHANCE_HOURS) || !isPart(part)) {
            return NO_SUCH;
        }
        return fraction(outlook.meanParts(place, n), power(WHOLE, n), part);
    }

    public long stays(int pen, int n, int part) {
        Pen one = office.penAt(pen);
        if (one == null || !isIn(n, 0, CHANCE_HOURS) || !isPart(part)) {
            return NO_SUCH;
        }
        int at = office.placeOf(pen);
        return fraction(power(office.drawOf(one, at, at), n), power(WHOLE, n), part);
    }

    public int can(int pen, int n) {
        Pen one = office.penAt(pen);
        if (one == null || !isIn(n, 0, REACH_HOURS)) {
            return NO_SUCH;
        }
        return outlook.reachOf(one, office.placeOf(pen), n);
    }

    public int whose(int place, int n) {
        if (!isPlace(place) || !isIn(n, 0, REACH_HOURS)) {
            return NO_SUCH;
        }
        int bits = 0;
        for (int i = 0; i < office.size(); i++) {
            int reach = outlook.reachOf(office.penAt(i), office.placeOf(i), n);
            bits |= (reach >> place & 1) << i;
        }
        return bits;
    }

    public int sink(int what) {
        if (!isIn(what, 0, 1)) {
            return NO_SUCH;
        }
        int sign = what == 0 ? 1 : -1;
        int best = 0;
        for (int place = 1; place < PLACES; place++) {
            if (sign * office.surplusAt(place) > sign * office.surplusAt(best)) {
                best = place;
            }
        }
        return best;
    }

    public int heap(int n, int what) {
        if (!isIn(n, 0, RULE_HOURS) || !isIn(what, 0, 1)) {
            return NO_SUCH;
        }
        countThere(n);
        int best = 0;
        for (int place = 1; place < PLACES; place++) {
            if (thereBy[place] > thereBy[best]) {
                best = place;
            }
        }
        return what == 0 ? best : thereBy[best];
    }

    // ---- to buy, to lay

    public int buy(int kind, int figure, int from, int to, int n, int m) {
        if (!isKind(kind) || !isFigure(figure) || !isPlace(from) || !isPlace(to)
                || !isIn(n, 0, CHANCE_HOURS) || !isIn(m, 1, 99)) {
            return NO_SUCH;
        }
        long there = outlook.meanParts(to, n);
        long more = outlook.partsAt(penOf(kind, figure), from, to, n);
        long wanted = m * power(WHOLE, n);
        for (int k = 0; k <= MOST_BOUGHT; k++) {
            if (there + k * more >= wanted) {
                return k;
            }
        }
        return NONE;
    }

    public int lay(int kind, int figure, int to, int n) {
        if (!isKind(kind) || !isFigure(figure) || !isPlace(to) || !isIn(n, 0, CHANCE_HOURS)) {
            return NO_SUCH;
        }
        Pen one = penOf(kind, figure);
        int best = 0;
        long most = -1;
        for (int from = 0; from < PLACES; from++) {
            long parts = outlook.partsAt(one, from, to, n);
            if (parts > most) {
                most = parts;
                best = from;
            }
        }
        return best;
    }

    public int bestKind(int pen, int n) {
        Pen one = office.penAt(pen);
        if (one == null || !isIn(n, 0, CHANCE_HOURS)) {
            return NO_SUCH;
        }
        int at = office.placeOf(pen);
        int best = PEN;
        long most = -1;
        for (int kind = PEN; kind <= HOMED; kind++) {
            long parts = outlook.partsAt(penOf(kind, one.figure), at, at, n);
            if (parts > most) {
                most = parts;
                best = kind;
            }
        }
        return best;
    }

    // ---- counts, collecting, signs

    public int counts(int d, int n) {
        if (!isIn(n, 0, REACH_HOURS)) {
            return NO_SUCH;
        }
        Row told = rowOn(d);
        if (told == null) {
            return whyNotHeld(d);
        }
        if (told.size() != PLACES) {
            return NO_ELEMENT;
        }
        if (office.size() > MOST_COUNTED) {
            return NOT_NOW;
        }
        if (!takesTold(told)) {
            return 0;
        }
        for (int i = 0; i < office.size(); i++) {
            reaches[i] = outlook.reachOf(office.penAt(i), office.placeOf(i), n);
        }
        return waysToLay(0, office.size(), reaches, thereBy);
    }

    public int collect() {
        int stops = findOrder();
        int minutes = 0;
        int sum = 0;
        for (int i = 0; i < stops && i < PLACES; i++) {
            int place = order[i];
            minutes += office.walkAt(place);
            sum += minutes * office.countAt(place);
        }
        return sum;
    }

    public int collected(int i) {
        int stops = findOrder();
        return i >= 0 && i < stops && i < PLACES ? order[i] : NONE;
    }

    public int sign(int place, int n) {
        if (!isPlace(place) || !isIn(n, 0, CHANCE_HOURS)) {
            return STARRED + NO_SUCH;
        }
        long lead = outlook.leadParts(place, n);
        return lead > 0 ? 1 : lead < 0 ? -1 : 0;
    }

    public int keeps(int place, int t) {
        if (!isPlace(place) || !isIn(t, 1, 9)) {
            return NO_SUCH;
        }
        // Whoever is to take from a multiple of t + 1 loses: the other one makes each two
        // takings t + 1. So the one way to win is to leave such a multiple.
        int take = office.countAt(place) % (t + 1);
        return take == 0 ? NONE : take;
    }

    public int lent(int pen) {
        Pen one = office.penAt(pen);
        if (one == null) {
            return NO_SUCH;
        }
        int home = office.placeOf(pen);
        int at = home;
        for (int n = 1; n <= RULE_HOURS; n++) {
            int next = office.ruleFrom(one, at);
            if (next == home && at != home) {
                return n;
            }
            at = next;
        }
        return NONE;
    }

    // ---- seeds, told places

    public int seeded(int n, int z, int place, int what) {
        if (!isIn(n, 1, SEEDED_HOURS) || !isPlace(place) || !isIn(what, 0, 1)) {
            return NO_SUCH;
        }
        goBySeed(n, z);
        int many = 0;
        int worth = 0;
        for (int i = 0; i < office.size() && i < MOST_PENS; i++) {
            Pen one = office.penAt(i);
            if (one != null && inMind[i] == place) {
                many++;
                worth += one.value();
            }
        }
        return what == 0 ? many : worth;
    }

    public int judge(int pen, int d) {
        Pen one = office.penAt(pen);
        if (one == null) {
            return NO_SUCH;
        }
        Row told = rowOn(d);
        if (told == null) {
            return whyNotHeld(d);
        }
        int at = office.placeOf(pen);
        for (int i = 0; i < told.size(); i++) {
            int v = told.valueAt(i);
            if (v != told.leastOfSort() && v != at) {
                return i;
            }
            at = office.ruleFrom(one, at);
        }
        return NONE;
    }

    // ---- the image, what is told

    public int image() {
        saved.become(office);
        hasImage = true;
        return office.size();
    }

    public int restore() {
        if (!hasImage) {
            return NOT_NOW;
        }
        office.become(saved);
        return office.size();
    }

    public int count(int what) {
        switch (what) {
            case 0: return office.size();
            case 1: return office.hourNow();
            case 2: return office.allWorths();
            case 3: return office.allWays();
            case 4: return office.placesTaken();
            default: return NO_SUCH;
        }
    }

    // ---- shelves

    public int keep(int d, int what, int k, int figure) {
        if (!isShelf(d) || !isIn(what, 0, 1)) {
            return NO_SUCH;
        }
        if (what == 0) {
            return fillShelf(d, null, null);
        }
        if (!isKind(k) || !isFigure(figure)) {
            return NO_SUCH;
        }
        return fillShelf(d, penOf(k, figure), null);
    }

    public int row(int d, int sort, int n) {
        if (!isShelf(d) || !isIn(sort, BYTES, INTS) || n > MOST_ELEMENTS) {
            return NO_SUCH;
        }
        if (n < 0) {
            return SIZE_BELOW_ZERO;
        }
        return fillShelf(d, null, new Row(sort, n));
    }

    public int put(int d, int i, int v) {
        Row row = rowOn(d);
        if (row == null) {
            return whyNotHeld(d);
        }
        if (!row.spans(i, 1)) {
            return NO_ELEMENT;
        }
        row.store(i, v);
        return 0;
    }

    public long element(int d, int i) throws IllegalArgumentException, IllegalStateException {
        if (!isShelf(d)) {
            throw new IllegalArgumentException("no such shelf");
        }
        Row row = rowOn(d);
        if (row == null || !row.spans(i, 1)) {
            throw new IllegalStateException("no row, or no such place in it");
        }
        return row.valueAt(i);
    }

    public int copy(int d, int i, int e, int j, int n) {
        if (!isShelf(d) || !isShelf(e)) {
            return NO_SUCH;
        }
        if (isBare(d) || isBare(e)) {
            return NOTHING_HELD;
        }
        Row from = rowOn(d);
        Row to = rowOn(e);
        if (from == null || to == null || from.sort != to.sort) {
            return OTHER_HELD;
        }
        if (!from.spans(i, n) || !to.spans(j, n)) {
            return NO_ELEMENT;
        }
        to.storeFrom(from, i, j, n);
        return n;
    }

    public int cost(int d) {
        Pen one = penOn(d);
        return one == null ? whyNotHeld(d) : one.price();
    }

    public int toss(int d) {
        Pen one = penOn(d);
        if (one == null) {
            return whyNotHeld(d);
        }
        if (!one.canFail()) {
            return NO_FAILURE;
        }
        try {
            one.fail();
        } catch (IllegalArgumentException chewed) {
            return 100 + one.figure;
        } catch (UnsupportedOperationException named) {
            return 200 + one.price();
        } catch (IllegalStateException other) {
            return one.figure;
        }
        return NO_FAILURE;
    }

    // ---- numbers that are as told

    private static boolean isIn(int v, int least, int most) {
        return v >= least && v <= most;
    }

    private static boolean isPlace(int place) {
        return isIn(place, 0, PLACES - 1);
    }

    private static boolean isKind(int kind) {
        return isIn(kind, PEN, HOMED);
    }

    private static boolean isFigure(int figure) {
        return isIn(figure, 0, 9);
    }

    private static boolean isPart(int part) {
        return isIn(part, 0, 1);
    }

    private static boolean isShelf(int d) {
        return isIn(d, 0, SHELVES - 1);
    }

    private static boolean isDigit(int sign) {
        return isIn(sign, '0', '9');
    }

    // ---- what shelves hold

    private Row rowOn(int d) {
        return isShelf(d) ? rowsHeld[d] : null;
    }

    private Pen penOn(int d) {
        return isShelf(d) ? pensHeld[d] : null;
    }

    private boolean isBare(int d) {
        return penOn(d) == null && rowOn(d) == null;
    }

    private int whyNotHeld(int d) {
        if (!isShelf(d)) {
            return NO_SUCH;
        }
        return isBare(d) ? NOTHING_HELD : OTHER_HELD;
    }

    private int fillShelf(int d, Pen pen, Row row) {
        if (!isShelf(d)) {
            return NO_SUCH;
        }
        pensHeld[d] = pen;
        rowsHeld[d] = row;
        return 0;
    }

    private static Pen penOf(int kind, int figure) {
        switch (kind) {
            case GOOD: return new Good(kind, figure);
            case FREE: return new Free(kind, figure);
            case CHEWED: return new Chewed(kind, figure);
            case CHAINED: return new Chained(kind, figure);
            case NAMED: return new Named(kind, figure);
            case EMPTY: return new Empty(kind, figure);
            case HOMED: return new Homed(kind, figure);
            default: return new Pen(PEN, figure);
        }
    }

    // ---- texts of offices

    private static int digitsBehind(int letter) {
        switch (letter) {
            case 'p':
            case 'w': return 3;
            case 's':
            case 'k':
            case 'm': return 2;
            case 'g': return 1;
            case 'h':
            case 'u': return 0;
            default: return NONE;
        }
    }

    private static int firstBadByte(Row text) {
        int at = 0;
        do {
            int letter = text.valueAt(at);
            int digits = digitsBehind(letter);
            if (digits == NONE) {
                return at;
            }
            at++;
            for (int k = 0; k < digits; k++) {
                if (!isDigit(text.valueAt(at))) {
                    return at;
                }
                at++;
            }
            if (letter == 'g' && isDigit(text.valueAt(at))) {
                at++;
            }
            if (text.valueAt(at) != ';') {
                return at;
            }
            at++;
        } while (at < text.size());
        return NONE;
    }

    /** Tries the statement on the draft, so that a fault further on leaves the office as it is. */
    private int carryOut(Row text, int start, int digits) {
        int a = text.valueAt(start + 1) - '0';
        int b = text.valueAt(start + 2) - '0';
        int c = text.valueAt(start + 3) - '0';
        switch (text.valueAt(start)) {
            case 'p': return isKind(a) ? draft.addPen(penOf(a, b), c) : NO_SUCH;
            case 'w': return draft.changeWay(a, b, c);
            case 's': return draft.changeHold(a, b);
            case 'k': return draft.changeWalk(a, b);
            case 'g': return draft.changePull(digits == 1 ? a : 10 * a + b);
            case 'm': return draft.movePen(a, b);
            case 'h': return draft.passHours(1);
            case 'u': return draft.dropLast();
            default: return NO_SUCH;
        }
    }

    // ---- fractions

    private static long power(long base, int n) {
        long product = 1;
        for (int i = 0; i < n; i++) {
            product *= base;
        }
        return product;
    }

    private static long fraction(long above, long below, int part) {
        long a = above;
        long b = below;
        // Euclid's steps on two longs are fewer than a hundred.
        for (int step = 0; step < 100 && b != 0; step++) {
            long rest = a % b;
            a = b;
            b = rest;
        }
        long wanted = part == 0 ? above : below;
        return a == 0 ? wanted : wanted / a;
    }

    // ---- thinking

    private void countThere(int n) {
        Arrays.fill(thereBy, 0);
        for (int i = 0; i < office.size(); i++) {
            int place = office.ruleBehind(office.penAt(i), office.placeOf(i), n);
            if (isPlace(place)) {
                thereBy[place]++;
            }
        }
    }

    private boolean takesTold(Row told) {
        int sum = 0;
        for (int place = 0; place < PLACES; place++) {
            int v = told.valueAt(place);
            if (!isIn(v, 0, MOST_COUNTED)) {
                return false;
            }
            thereBy[place] = v;
            sum += v;
        }
        return sum == office.size();
    }

    private static int waysToLay(int pen, int pens, int[] reaches, int[] left) {
        if (pen >= pens || pen >= reaches.length) {
            return 1;
        }
        int ways = 0;
        for (int place = 0; place < left.length; place++) {
            if (left[place] > 0 && (reaches[pen] >> place & 1) != 0) {
                left[place]--;
                ways += waysToLay(pen + 1, pens, reaches, left);
                left[place]++;
            }
        }
        return ways;
    }

    private int findOrder() {
        int taken = office.placesTaken();
        int stops = 0;
        for (int i = 0; i < PLACES && taken != 0; i++) {
            int next = bestStop(taken);
            order[i] = next;
            taken &= ~(1 << next);
            stops++;
        }
        return stops;
    }

    /**
     * To change two stops that follow one another changes the sum by the pens of the one times
     * the walk to the other, less the same crosswise: so least sums have the walk for each pen
     * rise, and where it is alike for some, any order of these does: the least place goes ahead.
     */
    private int bestStop(int places) {
        int best = -1;
        for (int place = 0; place < PLACES; place++) {
            if ((places >> place & 1) != 0 && (best < 0 || office.walkAt(place)
                    * office.countAt(best) < office.walkAt(best) * office.countAt(place))) {
                best = place;
            }
        }
        return best;
    }

    private void goBySeed(int n, int seed) {
        for (int i = 0; i < MOST_PENS; i++) {
            inMind[i] = office.placeOf(i);
        }
        int z = seed;
        for (int hour = 0; hour < n; hour++) {
            for (int i = 0; i < office.size() && i < MOST_PENS; i++) {
                z = z * 1103515245 + 12345;
                int drawn = (z & 0x7fffffff) / 65536 % WHOLE;
                inMind[i] = fallsOn(office.penAt(i), inMind[i], drawn);
            }
        }
    }

    private int fallsOn(Pen pen, int from, int drawn) {
        int left = drawn;
        for (int place = 0; place < PLACES; place++) {
            left -= office.drawOf(pen, from, place);
            if (left < 0) {
                return place;
            }
        }
        return from;
    }

    /** PEN, and what all the others are under. It never changes, so offices may share it. */
    private static class Pen {
        final int kind;
        final int figure;
        final int home;

        Pen(int kind, int figure) {
            this.kind = kind;
            this.figure = figure;
            this.home = figure % PLACES;
        }

        boolean leaves(int place, int hold) {
            return true;
        }

        /** DRAW to another place of one that leaves, plain being what a PEN has there. */
        int drawnBy(int plain, int to) {
            return plain;
        }

        int value() {
            return 2;
        }

        int price() {
            return 3;
        }

        boolean canFail() {
            return figure != 0;
        }

        // By the number of the kind: kinds under these two fail as a PEN does.
        final void fail() {
            if (kind == CHEWED) {
                throw new IllegalArgumentException("chewed");
            }
            if (kind == NAMED) {
                throw new UnsupportedOperationException("named");
            }
            throw new IllegalStateException("a pen");
        }
    }

    private static class Good extends Pen {
        Good(int kind, int figure) {
            super(kind, figure);
        }

        int drawnBy(int plain, int to) {
            return 2 * plain;
        }

        int value() {
            return super.value() * (figure + 1);
        }

        int price() {
            return super.price() + figure;
        }
    }

    private static class Free extends Pen {
        Free(int kind, int figure) {
            super(kind, figure);
        }

        int drawnBy(int plain, int to) {
            return plain / 2;
        }

        int value() {
            return super.value() - 1;
        }

        int price() {
            return 0;
        }
    }

    private static class Chewed extends Pen {
        Chewed(int kind, int figure) {
            super(kind, figure);
        }

        int drawnBy(int plain, int to) {
            return Math.max(0, plain - figure);
        }

        int price() {
            return 2 * super.price();
        }
    }

    private static final class Chained extends Chewed {
        Chained(int kind, int figure) {
            super(kind, figure);
        }

        boolean leaves(int place, int hold) {
            return false;
        }

        int value() {
            return super.value() + 7;
        }

        int price() {
            return super.price() + 5;
        }
    }

    private static class Named extends Good {
        Named(int kind, int figure) {
            super(kind, figure);
        }

        int drawnBy(int plain, int to) {
            return super.drawnBy(plain, to) + (to == home ? 10 : 0);
        }

        int value() {
            return super.value() + 2;
        }

        int price() {
            return super.price() + 4;
        }
    }

    private static final class Empty extends Free {
        Empty(int kind, int figure) {
            super(kind, figure);
        }

        boolean leaves(int place, int hold) {
            return hold <= 4;
        }

        int value() {
            return 0;
        }

        int price() {
            return super.price() + 1;
        }

        boolean canFail() {
            return false;
        }
    }

    private static final class Homed extends Named {
        Homed(int kind, int figure) {
            super(kind, figure);
        }

        boolean leaves(int place, int hold) {
            return place != home;
        }

        int value() {
            return super.value() + figure;
        }

        int price() {
            return 2 * super.price();
        }
    }

    /** Elements of one sort. Beyond its ends it reads 0, which no text of an office can hold. */
    private static final class Row {
        final int sort;
        private final int[] elements;

        Row(int sort, int size) {
            this.sort = sort;
            this.elements = new int[Math.max(0, Math.min(size, MOST_ELEMENTS))];
        }

        int size() {
            return elements.length;
        }

        boolean spans(int from, int n) {
            return n >= 0 && from >= 0 && from <= elements.length && n <= elements.length - from;
        }

        int valueAt(int i) {
            return spans(i, 1) ? elements[i] : 0;
        }

        void store(int i, int v) {
            if (spans(i, 1)) {
                elements[i] = sort == BYTES ? (byte) v : sort == SHORTS ? (short) v : v;
            }
        }

        void storeFrom(Row other, int i, int j, int n) {
            if (other != null && other.spans(i, n) && spans(j, n)) {
                System.arraycopy(other.elements, i, elements, j, n);
            }
        }

        int leastOfSort() {
            switch (sort) {
                case BYTES: return -128;
                case SHORTS: return -32768;
                default: return -2147483648;
            }
        }
    }

    /** All that there is but shelves. Its changes answer what face calls do, below 0 if refused. */
    private static final class Office {
        private final int[] ways = new int[PLACES * PLACES];
        private final int[] holds = new int[PLACES];
        private final int[] walks = new int[PLACES];
        private final Pen[] pens = new Pen[MOST_PENS];
        private final int[] spots = new int[MOST_PENS];
        private int size;
        private int pull = 5;
        private int hour;

        Office() {
            Arrays.fill(walks, 1);
        }

        void become(Office other) {
            if (other == null) {
                return;
            }
            System.arraycopy(other.ways, 0, ways, 0, PLACES * PLACES);
            System.arraycopy(other.holds, 0, holds, 0, PLACES);
            System.arraycopy(other.walks, 0, walks, 0, PLACES);
            System.arraycopy(other.spots, 0, spots, 0, MOST_PENS);
            for (int i = 0; i < MOST_PENS; i++) {
                pens[i] = other.pens[i];
            }
            size = other.size;
            pull = other.pull;
            hour = other.hour;
        }

        int size() {
            return size;
        }

        int hourNow() {
            return hour;
        }

        Pen penAt(int i) {
            return i >= 0 && i < size && i < MOST_PENS ? pens[i] : null;
        }

        int placeOf(int i) {
            return isIn(i, 0, MOST_PENS - 1) ? spots[i] : NO_SUCH;
        }

        int walkAt(int place) {
            return isPlace(place) ? walks[place] : 0;
        }

        int addPen(Pen pen, int place) {
            if (pen == null || !isPlace(place)) {
                return NO_SUCH;
            }
            if (!isIn(size, 0, MOST_PENS - 1)) {
                return NO_ROOM;
            }
            pens[size] = pen;
            spots[size] = place;
            size++;
            return size - 1;
        }

        int dropLast() {
            if (size == 0) {
                return NO_SUCH;
            }
            size--;
            return size;
        }

        int movePen(int pen, int place) {
            if (penAt(pen) == null || !isPlace(place)) {
                return NO_SUCH;
            }
            int before = spots[pen];
            spots[pen] = place;
            return before;
        }

        int changeWay(int from, int to, int v) {
            if (!isPlace(from) || !isPlace(to) || from == to || !isIn(v, 0, 9)) {
                return NO_SUCH;
            }
            int before = ways[from * PLACES + to];
            ways[from * PLACES + to] = v;
            return before;
        }

        int changeHold(int place, int v) {
            if (!isPlace(place) || !isIn(v, 0, 9)) {
                return NO_SUCH;
            }
            int before = holds[place];
            holds[place] = v;
            return before;
        }

        int changeWalk(int place, int v) {
            if (!isPlace(place) || !isIn(v, 1, 9)) {
                return NO_SUCH;
            }
            int before = walks[place];
            walks[place] = v;
            return before;
        }

        int changePull(int v) {
            if (!isIn(v, 1, 99)) {
                return NO_SUCH;
            }
            int before = pull;
            pull = v;
            return before;
        }

        int passHours(int n) {
            if (n > LAST_HOUR - hour) {
                return NO_ROOM;
            }
            for (int k = 0; k < n; k++) {
                for (int i = 0; i < size && i < MOST_PENS; i++) {
                    spots[i] = ruleFrom(pens[i], spots[i]);
                }
            }
            hour += n;
            return hour;
        }

        int drawOf(Pen pen, int from, int to) {
            if (to != from) {
                return drawAway(pen, from, to);
            }
            int rest = WHOLE;
            for (int other = 0; other < PLACES; other++) {
                rest -= drawAway(pen, from, other);
            }
            return rest;
        }

        void fillDraws(Pen pen, int[] draws) {
            for (int from = 0; from < PLACES && draws.length >= PLACES * PLACES; from++) {
                int rest = WHOLE;
                for (int to = 0; to < PLACES; to++) {
                    int drawn = drawAway(pen, from, to);
                    draws[from * PLACES + to] = drawn;
                    rest -= drawn;
                }
                draws[from * PLACES + from] = rest;
            }
        }

        private int drawAway(Pen pen, int from, int to) {
            if (pen == null || from == to || !isPlace(from) || !isPlace(to)) {
                return 0;
            }
            int plain = Math.max(0, ways[from * PLACES + to] - holds[from]);
            return pen.leaves(from, holds[from]) ? pen.drawnBy(plain, to) : 0;
        }

        int ruleFrom(Pen pen, int from) {
            int best = from;
            int most = pull - 1;
            for (int to = 0; to < PLACES; to++) {
                int drawn = drawAway(pen, from, to);
                if (drawn > most) {
                    most = drawn;
                    best = to;
                }
            }
            return best;
        }

        int ruleBehind(Pen pen, int from, int n) {
            int at = from;
            for (int i = 0; i < n; i++) {
                at = ruleFrom(pen, at);
            }
            return at;
        }

        int countAt(int place) {
            int many = 0;
            for (int i = 0; i < size && i < MOST_PENS; i++) {
                if (spots[i] == place) {
                    many++;
                }
            }
            return many;
        }

        int placesTaken() {
            int bits = 0;
            for (int place = 0; place < PLACES; place++) {
                if (countAt(place) > 0) {
                    bits |= 1 << place;
                }
            }
            return bits;
        }

        int surplusAt(int place) {
            int surplus = 0;
            for (int other = 0; other < PLACES && isPlace(place); other++) {
                surplus += ways[other * PLACES + place] - ways[place * PLACES + other];
            }
            return surplus;
        }

        int allWays() {
            int sum = 0;
            for (int i = 0; i < PLACES * PLACES; i++) {
                sum += ways[i];
            }
            return sum;
        }

        int allWorths() {
            int sum = 0;
            for (int i = 0; i < size; i++) {
                Pen pen = penAt(i);
                sum += pen == null ? 0 : pen.value();
            }
            return sum;
        }
    }

    /** Where pens may be behind some hours. Chances behind n hours are parts of 100 to the n. */
    private static final class Outlook {
        private final Office office;
        private final int[] draws = new int[PLACES * PLACES];
        private final long[] parts = new long[PLACES];
        private final long[] nextParts = new long[PLACES];

        Outlook(Office office) {
            this.office = office;
        }

        long partsAt(Pen pen, int from, int to, int n) {
            if (!isPlace(from) || !isPlace(to)) {
                return 0;
            }
            office.fillDraws(pen, draws);
            Arrays.fill(parts, 0);
            parts[from] = 1;
            for (int hour = 0; hour < n; hour++) {
                spread();
            }
            return parts[to];
        }

        private void spread() {
            Arrays.fill(nextParts, 0);
            for (int from = 0; from < PLACES; from++) {
                for (int to = 0; to < PLACES; to++) {
                    nextParts[to] += parts[from] * draws[from * PLACES + to];
                }
            }
            System.arraycopy(nextParts, 0, parts, 0, PLACES);
        }

        long meanParts(int place, int n) {
            long sum = 0;
            for (int i = 0; i < office.size(); i++) {
                sum += partsAt(office.penAt(i), office.placeOf(i), place, n);
            }
            return sum;
        }

        /** By how much the good ones are ahead of the free ones. */
        long leadParts(int place, int n) {
            long lead = 0;
            for (int i = 0; i < office.size(); i++) {
                Pen pen = office.penAt(i);
                if (pen instanceof Good) {
                    lead += partsAt(pen, office.placeOf(i), place, n);
                } else if (pen instanceof Free) {
                    lead -= partsAt(pen, office.placeOf(i), place, n);
                }
            }
            return lead;
        }

        int reachOf(Pen pen, int from, int n) {
            if (!isPlace(from)) {
                return 0;
            }
            office.fillDraws(pen, draws);
            int places = 1 << from;
            for (int hour = 0; hour < n; hour++) {
                places = reachNext(places);
            }
            return places;
        }

        private int reachNext(int places) {
            int next = 0;
            for (int from = 0; from < PLACES; from++) {
                for (int to = 0; to < PLACES; to++) {
                    if ((places >> from & 1) != 0 && draws[from * PLACES + to] > 0) {
                        next |= 1 << to;
                    }
                }
            }
            return next;
        }
    }
}
