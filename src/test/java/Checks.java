/** Counts the answers that are not as due, and makes the offices that the tests ask. */
final class Checks {
    private int asked;
    private int wrong;

    void due(String call, long got, long want) {
        asked++;
        if (got != want) {
            wrong++;
            System.out.println(call + " answered " + got + ", due is " + want);
        }
    }

    /** Ends the program with exit code 1 if an answer was wrong, or if there was none at all. */
    void end() {
        System.out.println(asked + " answers, " + wrong + " not as due");
        if (wrong != 0 || asked == 0) {
            System.exit(1);
        }
    }

    /** Lays the text into shelf 0 as a row of bytes and reads it as an office. */
    static int read(PensGo x, String text) {
        lay(x, 0, text);
        return x.office(0);
    }

    static void lay(PensGo x, int shelf, String text) {
        x.row(shelf, 0, text.length());
        for (int i = 0; i < text.length(); i++) {
            x.put(shelf, i, text.charAt(i));
        }
    }

    static void layRow(PensGo x, int shelf, int sort, int... elements) {
        x.row(shelf, sort, elements.length);
        for (int i = 0; i < elements.length; i++) {
            x.put(shelf, i, elements[i]);
        }
    }

    static PensGo made(String text) {
        PensGo x = new PensGo();
        if (read(x, text) < 0) {
            throw new IllegalStateException("the test's own office has a fault: " + text);
        }
        return x;
    }

    /** What the call answers, or 1001 and 1002 for the two exceptions that it may throw. */
    static long element(PensGo x, int shelf, int i) {
        try {
            return x.element(shelf, i);
        } catch (IllegalArgumentException noShelf) {
            return 1001;
        } catch (IllegalStateException noElement) {
            return 1002;
        }
    }
}
