/** Objects in which there is something of all, so that a test can see what a call changes. */
final class Worlds {
    private Worlds() {
    }

    /**
     * Three PENS at HOUR 2: 0 is HOMED 9 at PLACE 0, 1 a PEN at 2, 2 a GOOD one, FIGURE 0, at 5.
     * WAYS 0 to 1 9, 1 to 2 9, 5 to 0 1; HOLDS 1 3, 5 2; WALKS 2 7, 4 4; PULL 5. THE IMAGE is of
     * HOUR 1 and unlike. SHELVES: 0 the text, 1 HOMED 9, 2 six shorts, 3 six ints, 4 five ints,
     * 5 no bytes, 6 nothing, 7 NAMED 3.
     */
    static PensGo few() {
        PensGo x = Checks.made("p792;p000;p105;w019;w129;s13;k27;g7;h;");
        x.image();
        Checks.read(x, "w501;s52;k44;g5;h;m00;");
        x.keep(1, 1, 7, 9);
        Checks.layRow(x, 2, 1, 1, 0, 1, 0, 0, 1);
        Checks.layRow(x, 3, 2, 0, 1, 2, 3, 4, 5);
        Checks.layRow(x, 4, 2, 10, 11, 12, 13, 14);
        x.row(5, 0, 0);
        x.keep(7, 1, 5, 3);
        return x;
    }

    /**
     * Ten PENS at HOUR 999, each KIND, at all PLACES. THE IMAGE is of HOUR 0. SHELVES: 0 the text,
     * 1 HOMED 9, 2 six ints, 3 five ints, the others nothing.
     */
    static PensGo full() {
        PensGo x = Checks.made("p000;p111;p222;p333;p444;p555;p660;p771;p082;p193;");
        x.image();
        passTo(x, 999);
        x.keep(1, 1, 7, 9);
        Checks.layRow(x, 2, 2, 2, 2, 2, 2, 1, 1);
        Checks.layRow(x, 3, 2, 2, 2, 2, 2, 2);
        return x;
    }

    /** Lets hours go by till it is that one. */
    static void passTo(PensGo x, int hour) {
        while (x.count(1) < hour) {
            x.hours(Math.min(99, hour - x.count(1)));
        }
    }

    /** As many CHAINED ones (they never go) at the place. */
    static PensGo chained(int pens, int place) {
        PensGo x = new PensGo();
        x.keep(7, 1, 4, 0);
        for (int i = 0; i < pens; i++) {
            x.comes(7, place);
        }
        return x;
    }
}
