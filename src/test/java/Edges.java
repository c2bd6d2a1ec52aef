import java.util.Arrays;

/**
 * Tests at the edges of what the document allows: at the last value that is, and at the first that
 * isn't. Each is made on objects of its own, for an object is good for 512 calls only.
 */
final class Edges {
    /** Calls that are made ahead of an act. */
    interface Calls {
        void on(PortLook x);
    }

    interface Act {
        int on(PortLook x);
    }

    /** An act with a number that is looked at. */
    interface ActWith {
        int on(PortLook x, int v);
    }

    static final Calls NEW = x -> { };

    private static final int LOW = -1000000;

    private Edges() {
    }

    static PortLook after(Calls ahead) {
        PortLook x = new PortLook();
        ahead.on(x);
        return x;
    }

    static Calls both(Calls first, Calls second) {
        return x -> {
            first.on(x);
            second.on(x);
        };
    }

    /** The act answers as due, and found() tells nothing of it. */
    static void allowed(String test, Calls ahead, Act act, int want) {
        PortLook x = after(ahead);
        int[] before = Portrait.found(x);
        Due.due(test, act.on(x), want);
        Due.holds(test + " (no finding is told)", Arrays.equals(before, Portrait.found(x)));
    }

    /** The act answers a finding, and changes nothing but what found() tells. */
    static void refused(String test, Calls ahead, Act act, int finding) {
        Due.due(test, act.on(after(ahead)), finding);
        Calls withAct = both(ahead, x -> act.on(x));
        for (int part = 0; part < Portrait.PARTS; part++) {
            same(test + " (changes nothing, part " + part + ")", ahead, withAct, part);
        }
        int[] want = Portrait.found(after(ahead));
        want[LOW - finding]++;
        Due.holds(test + " (found() tells it)", Arrays.equals(want, Portrait.found(after(withAct))));
    }

    /** Two runs of calls leave the same behind, found() too. */
    static void alike(String test, Calls one, Calls other) {
        for (int part = 0; part < Portrait.PARTS; part++) {
            same(test + " (part " + part + ")", one, other, part);
        }
        Due.holds(test + " (found)", Arrays.equals(Portrait.found(after(one)), Portrait.found(after(other))));
    }

    private static void same(String test, Calls one, Calls other, int part) {
        int[] want = Portrait.of(after(one), part);
        int[] got = Portrait.of(after(other), part);
        Due.due(test + ": the first answer that differs", Arrays.mismatch(got, want), -1);
    }

    /** From least to most no finding is told; the numbers next to them, and int's ends, are BEYOND. */
    static void range(String test, Calls ahead, ActWith act, int least, int most) {
        for (int v : new int[] {least, most}) {
            int got = act.on(after(ahead), v);
            Due.holds(test + " " + v + " answered " + got, got >= LOW);
        }
        beyond(test, ahead, act, least - 1, most + 1, Integer.MIN_VALUE, Integer.MAX_VALUE);
    }

    static void beyond(String test, Calls ahead, ActWith act, int... numbers) {
        for (int v : numbers) {
            refused(test + " " + v, ahead, x -> act.on(x, v), Due.BEYOND);
        }
    }
}
