/** Promise 16, look: calls, inspectors, faults, 60 at most; and when a look holds. */
public final class Promise16LookTest {
    private Promise16LookTest() {
    }

    public static void main(String[] args) {
        beyond();
        over();
        full();
        grave();
        limit();
        mostWeight();
        inForce();
        heldTillReleased();
        Due.close("Promise16LookTest");
    }

    private static void beyond() {
        Edges.range("16: call", x -> {
            World.ships(x, 2);
            x.call(0, 0);
            x.call(1, 0);
        }, (x, v) -> x.look(v, 0, 0), 0, 1);
        Edges.range("16: inspector", World::busy, (x, v) -> x.look(0, v, 0), 0, 5);
        Edges.range("16: faults", World::busy, (x, v) -> x.look(0, 0, v), 0, 1023);
        Edges.refused("16: no call", World::busy, x -> x.look(World.CALLS, 0, 0), Due.BEYOND);
        Edges.refused("16: no fault beside one", World::busy, x -> x.look(0, 0, 1025), Due.BEYOND);
    }

    private static void over() {
        Edges.refused("16: over", World::busy, x -> x.look(World.CALL_OVER, 0, 0), Due.STATE);
        Edges.refused("16: over, it would hold", World::busy, x -> x.look(World.CALL_OVER, 0, 1), Due.STATE);
        Edges.refused("16: no inspector is asked ahead of STATE", World::busy, x -> x.look(World.CALL_OVER, 6, 0),
            Due.BEYOND);
        Edges.refused("16: no faults is asked ahead of STATE", World::busy, x -> x.look(World.CALL_OVER, 0, 1024),
            Due.BEYOND);
        Edges.Calls leftToday = Edges.both(World::busy, x -> x.leave(World.GAS_CALL));
        Edges.refused("16: over since this day", leftToday, x -> x.look(World.GAS_CALL, 0, 0), Due.STATE);
        Edges.allowed("16: not over", World::busy, x -> x.look(World.GAS_CALL, 0, 0), World.LOOKS);
        Edges.allowed("16: held", World::busy, x -> x.look(World.HELD_CALL, 0, 1), World.LOOKS);
    }

    private static void full() {
        Edges.Calls fiftyNine = Edges.both(World::busy, x -> World.looks(x, 59));
        Edges.Calls sixty = Edges.both(World::busy, x -> World.looks(x, 60));
        Edges.allowed("16: the 60th", fiftyNine, x -> x.look(0, 5, 1023), 59);
        Edges.refused("16: the 61st", sixty, x -> x.look(0, 0, 0), Due.FULL);
        Edges.refused("16: the 61st would hold", sixty, x -> x.look(0, 5, 1023), Due.FULL);
        Edges.refused("16: the 61st would release", sixty, x -> x.look(World.HELD_CALL, 0, 0), Due.FULL);
        Edges.refused("16: no call is asked ahead of FULL", sixty, x -> x.look(World.CALLS, 0, 0), Due.BEYOND);
        Edges.refused("16: no inspector is asked ahead of FULL", sixty, x -> x.look(0, 6, 0), Due.BEYOND);
        Edges.refused("16: no faults is asked ahead of FULL", sixty, x -> x.look(0, 0, 1024), Due.BEYOND);
        Edges.refused("16: over is asked ahead of FULL", sixty, x -> x.look(World.CALL_OVER, 0, 0), Due.STATE);
    }

    /** Whether a look with these faults at a ship of a kind holds, on day 0, by a text. */
    private static void holds(String text, int kind, int faults, int want) {
        PortLook x = new PortLook();
        Due.treaty(x, text, 0);
        x.ship(10 * kind, 0, 0);
        x.call(0, 0);
        x.look(0, 0, faults);
        String test = "16: " + text + " and faults " + faults + " of kind " + kind;
        Due.due(test, x.told(0, 4), want);
        Due.due(test + ": the call is held", x.of(0, 4), want);
        Due.due(test + ": it leaves", x.leave(0), want == 1 ? Due.STATE : 1);
    }

    private static void grave() {
        String letters = "stgf";
        int[][] want = {{1, 1, 1, 1}, {0, 1, 1, 0}, {0, 0, 1, 0}, {0, 0, 0, 1}};
        for (int kind = 0; kind <= 3; kind++) {
            for (int i = 0; i < letters.length(); i++) {
                char letter = letters.charAt(i);
                holds("g0" + letter + ";", kind, 1, want[i][kind]);
                holds("g9" + letter + ";", kind, 512, want[i][kind]);
                holds("g9" + letter + ";", kind, 511, 0);
                holds("g0" + letter + ";", kind, 1022, 0);
            }
        }
        holds("g4s;", 0, 1023, 1);
        holds("g4s;", 0, 0, 0);
        // One that weighs nothing may be grave.
        holds("g4s;w40;", 0, 16, 1);
    }

    private static void limit() {
        holds("l3;", 0, 0b11, 0);
        holds("l3;", 0, 0b111, 1);
        holds("l3;", 0, 0b1111, 1);
        holds("l10;", 0, 511, 0);
        holds("l10;", 0, 1023, 1);
        holds("l5;w14;", 0, 0b10, 0);
        holds("l5;w15;", 0, 0b10, 1);
        holds("l5;w19;", 0, 0b10, 1);
        holds("l5;w04;w10;", 0, 0b11, 0);
        holds("l5;w04;w10;", 0, 0b111, 1);
        holds("l1;", 0, 0, 0);
        holds("l0;", 0, 0, 1);
        holds("l00;", 3, 0, 1);
        holds("", 0, 1023, 0);
    }

    private static void mostWeight() {
        String heavy = "w09;w19;w29;w39;w49;w59;w69;w79;w89;w99;";
        holds(heavy + "l90;", 0, 1023, 1);
        holds(heavy + "l90;", 0, 1022, 0);
        holds(heavy + "l91;", 0, 1023, 0);
        holds(heavy, 0, 1023, 0);
        holds(heavy + "l81;", 0, 511, 1);
        holds(heavy + "l82;", 0, 511, 0);
    }

    private static void inForce() {
        Edges.Calls fromTen = x -> {
            Due.treaty(x, "g0s;", 10);
            x.ship(0, 0, 0);
            x.call(0, 0);
        };
        PortLook x = Edges.after(fromTen);
        x.look(0, 0, 1023);
        Due.due("16: without a treaty in force", x.told(0, 4), 0);
        x.day(9);
        x.look(0, 0, 1);
        Due.due("16: the eve", x.told(1, 4), 0);
        x.day(10);
        x.look(0, 0, 1);
        Due.due("16: the day", x.told(2, 4), 1);
        Due.due("16: the looks ahead of it don't change", x.told(1, 4), 0);
        Due.treaty(x, "", 0);
        Due.due("16: as told when it was made", x.told(2, 4), 1);
        Due.due("16: the call stays held", x.of(0, 4), 1);
        x.look(0, 0, 1);
        Due.due("16: the one told last", x.told(3, 4), 0);
    }

    private static void heldTillReleased() {
        PortLook x = Edges.after(World::busy);
        x.look(World.OPEN_CALL, 0, 1);
        Due.due("16: held", x.of(World.OPEN_CALL, 4), 1);
        x.look(World.OPEN_CALL, 0, 1);
        Due.due("16: held by another one", x.of(World.OPEN_CALL, 4), 1);
        Due.due("16: two calls are", x.count(9), 2);
        x.look(World.OPEN_CALL, 5, 2);
        Due.due("16: released by one that doesn't hold", x.of(World.OPEN_CALL, 4), 0);
        Due.due("16: the other call isn't", x.of(World.HELD_CALL, 4), 1);
    }
}
