/** Counts the answers that are not as due, and prints them. */
final class Due {
    static final int BEYOND = -1000001;
    static final int NONE = -1000002;
    static final int STATE = -1000003;
    static final int FULL = -1000004;
    static final int KIND = -1000005;

    private static int asked = 0;
    private static int wrong = 0;

    private Due() {
    }

    static void due(String what, int got, int want) {
        asked++;
        if (got != want) {
            wrong++;
            System.out.println(what + " answered " + got + ", due is " + want);
        }
    }

    static void holds(String what, boolean itHolds) {
        due(what, itHolds ? 1 : 0, 1);
    }

    /** Ends the test: with exit code 1 if an answer was wrong. */
    static void close(String test) {
        System.out.println(test + ": " + asked + " answers asked, " + wrong + " not as due");
        if (wrong != 0) {
            System.exit(1);
        }
    }

    /** A treaty of a text, from a day on. */
    static int treaty(PortLook x, String text, int day) {
        for (int i = 0; i < text.length(); i++) {
            x.feed(text.charAt(i));
        }
        return x.treaty(day);
    }

    /** A plain ship at a call in port 0, where the fault 0 is grave from day 0 on. */
    static PortLook withGraveFaultZero() {
        PortLook x = new PortLook();
        treaty(x, "g0s;", 0);
        x.ship(0, 0, 0);
        x.call(0, 0);
        return x;
    }

    /** Looks of an inspector at a call, n times with the same faults. */
    static void look(PortLook x, int call, int faults, int n) {
        for (int i = 0; i < n; i++) {
            x.look(call, 0, faults);
        }
    }
}
