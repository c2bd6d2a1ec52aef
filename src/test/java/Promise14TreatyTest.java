/** Promise 14, treaty: the days, the place of a text's fault at every byte, and 6 at most. */
public final class Promise14TreatyTest {
    private static final String DIGITS = "0123456789";

    private Promise14TreatyTest() {
    }

    public static void main(String[] args) {
        noDay();
        full();
        emptyTape();
        fullTape();
        everyByte();
        endsTooEarly();
        aFaultLeavesNothing();
        Due.close("Promise14TreatyTest");
    }

    private static final Edges.Calls WHOLE = Edges.both(World::busy, World::wholeTape);

    private static void noDay() {
        Edges.range("14: day", WHOLE, (x, v) -> x.treaty(v), 0, 9999);
        Edges.allowed("14: a day gone by", WHOLE, x -> x.treaty(0), 3);
        Edges.allowed("14: the last day", WHOLE, x -> x.treaty(9999), 3);
        Edges.refused("14: no day is asked ahead of the text", World::busy, x -> x.treaty(10000), Due.BEYOND);
        Edges.allowed("14: the tape stays", Edges.both(WHOLE, x -> x.treaty(-1)), x -> x.count(5), 4);
        Edges.allowed("14: it is read then", Edges.both(WHOLE, x -> x.treaty(-1)), x -> x.treaty(0), 3);
    }

    private static void full() {
        Edges.Calls five = Edges.both(World::busy, x -> World.treaties(x, 5));
        Edges.Calls six = Edges.both(World::busy, x -> World.treaties(x, 6));
        Edges.allowed("14: the 6th", Edges.both(five, World::wholeTape), x -> x.treaty(0), 6);
        Edges.refused("14: the 7th", Edges.both(six, World::wholeTape), x -> x.treaty(0), Due.FULL);
        Edges.allowed("14: a fault, with five", five, x -> x.treaty(0), -12);
        Edges.refused("14: FULL is asked ahead of the text", six, x -> x.treaty(0), Due.FULL);
        Edges.refused("14: no day is asked ahead of FULL", six, x -> x.treaty(-1), Due.BEYOND);
        Edges.refused("14: no day is asked ahead of FULL", six, x -> x.treaty(10000), Due.BEYOND);
        Edges.allowed("14: the tape stays", Edges.both(six, x -> x.treaty(0)), x -> x.count(5), 2);
        Edges.Calls empty = x -> {
            for (int i = 0; i < 6; i++) {
                x.treaty(i);
            }
        };
        Edges.refused("14: the 7th, of an empty tape", empty, x -> x.treaty(0), Due.FULL);
    }

    private static void emptyTape() {
        Edges.allowed("14: an empty tape", Edges.NEW, x -> x.treaty(0), 1);
        Edges.allowed("14: the tape is empty then", Edges.both(WHOLE, x -> x.treaty(0)), x -> x.count(5), 0);
        Edges.allowed("14: an empty one behind it", Edges.both(WHOLE, x -> x.treaty(0)), x -> x.treaty(0), 4);
    }

    private static void fullTape() {
        String rows = "g0s;".repeat(15);
        Due.due("14: 60 good bytes", Due.treaty(new PortLook(), rows, 0), 1);
        Due.due("14: the 60th is the fault", Due.treaty(new PortLook(), rows.substring(0, 59) + "s", 0), -69);
        Due.due("14: the 60th is one too few", Due.treaty(new PortLook(), "l1;" + rows.substring(0, 57), 0), -70);
        Due.due("14: 59 of them", Due.treaty(new PortLook(), rows.substring(0, 59), 0), -69);
        Due.due("14: twenty rows", Due.treaty(new PortLook(), "l1;".repeat(20), 0), 1);
    }

    /** Behind a beginning just these bytes may come; each other one is the fault. */
    private static void mayCome(String beginning, String signs) {
        for (int b = 0; b <= 255; b++) {
            PortLook x = new PortLook();
            for (int i = 0; i < beginning.length(); i++) {
                x.feed(beginning.charAt(i));
            }
            x.feed(b);
            int want = -10 - beginning.length();
            if (signs.indexOf(b) >= 0) {
                want = b == ';' ? 1 : want - 1;
            }
            Due.due("14: '" + beginning + "' and byte " + b, x.treaty(0), want);
            Due.due("14: how many then", x.count(4), want == 1 ? 1 : 0);
            Due.due("14: the tape is empty then", x.count(5), 0);
        }
    }

    private static void everyByte() {
        for (String ahead : new String[] {"", "l5;", "g9f;w00;"}) {
            mayCome(ahead, "gwl");
            mayCome(ahead + "g", DIGITS);
            mayCome(ahead + "g9", "stgf");
            mayCome(ahead + "g9t", ";");
            mayCome(ahead + "w", DIGITS);
            mayCome(ahead + "w0", DIGITS);
            mayCome(ahead + "w09", ";");
            mayCome(ahead + "l", DIGITS);
            mayCome(ahead + "l9", DIGITS + ";");
            mayCome(ahead + "l09", ";");
        }
    }

    private static void endsTooEarly() {
        String[] texts = {"g", "g0", "g0s", "w", "w0", "w09", "l", "l0", "l09", "g0s;l", "w12;l09", "l3;w1"};
        for (String text : texts) {
            Due.due("14: '" + text + "' ends too early", Due.treaty(new PortLook(), text, 0), -10 - text.length());
        }
        Due.due("14: the first of two faults", Due.treaty(new PortLook(), "g0s;x;y", 0), -14);
    }

    private static void aFaultLeavesNothing() {
        Edges.Calls read = Edges.both(WHOLE, x -> x.treaty(77));
        Edges.alike("14: none comes of a text with a fault", read,
            Edges.both(read, x -> Due.treaty(x, "l1;g0s;w2", World.DAY)));
        Edges.allowed("14: the next text begins anew", Edges.both(read, x -> Due.treaty(x, "l1", 0)),
            x -> Due.treaty(x, "l1;", 0), 4);
    }
}
