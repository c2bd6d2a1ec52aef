/** Promise 26, were: doubles, and faults that there were by them. */
public final class Promise26WereTest {
    private Promise26WereTest() {
    }

    public static void main(String[] args) {
        beyond();
        notDoubles();
        nothingInCommon();
        quotients();
        Due.close("Promise26WereTest");
    }

    /** Looks 0 and 1 by two inspectors at one call, with these faults. */
    private static Edges.Calls pair(int faults, int others) {
        return x -> {
            x.ship(0, 0, 0);
            x.call(0, 0);
            x.look(0, 0, faults);
            x.look(0, 5, others);
        };
    }

    private static void beyond() {
        Edges.refused("26: no second look", World::busy, x -> x.were(0, World.LOOKS), Due.BEYOND);
        Edges.refused("26: no first look", World::busy, x -> x.were(World.LOOKS, 0), Due.BEYOND);
        Edges.beyond("26: the first look", World::busy, (x, v) -> x.were(v, 1), -1, 60, Integer.MIN_VALUE,
            Integer.MAX_VALUE);
        Edges.beyond("26: the second look", World::busy, (x, v) -> x.were(0, v), -1, 60, Integer.MIN_VALUE,
            Integer.MAX_VALUE);
        Edges.refused("26: no look, twice", World::busy, x -> x.were(World.LOOKS, World.LOOKS), Due.BEYOND);
        Edges.allowed("26: the first and the last look", pair(1, 1), x -> x.were(0, 1), 1);
        Edges.allowed("26: the last and the first look", pair(1, 1), x -> x.were(1, 0), 1);
        Edges.Calls sixty = Edges.both(World::busy, x -> {
            World.looks(x, 59);
            x.look(World.OPEN_CALL, 5, 1);
        });
        Edges.allowed("26: the 60th look", sixty, x -> x.were(0, 59), 1);
        Edges.refused("26: no 61st look", sixty, x -> x.were(0, 60), Due.BEYOND);
    }

    private static void notDoubles() {
        Edges.refused("26: one look", World::busy, x -> x.were(0, 0), Due.STATE);
        Edges.refused("26: one inspector", World::busy, x -> x.were(0, 2), Due.STATE);
        Edges.refused("26: two calls", World::busy, x -> x.were(0, 3), Due.STATE);
        Edges.Calls twoCalls = Edges.both(pair(1, 1), x -> {
            x.leave(0);
            x.call(0, 0);
            x.look(1, 3, 1);
        });
        Edges.refused("26: two calls of one ship", twoCalls, x -> x.were(0, 2), Due.STATE);
        Edges.refused("26: STATE is asked ahead of NONE", pair(0, 0), x -> x.were(0, 0), Due.STATE);
        Edges.Calls otherDay = Edges.both(pair(1, 1), x -> {
            x.day(9999);
            x.look(0, 1, 1);
        });
        Edges.allowed("26: doubles on two days", otherDay, x -> x.were(0, 2), 1);
    }

    private static void nothingInCommon() {
        Edges.refused("26: both without faults", pair(0, 0), x -> x.were(0, 1), Due.NONE);
        Edges.refused("26: the first without faults", pair(0, 1023), x -> x.were(0, 1), Due.NONE);
        Edges.refused("26: the second without faults", pair(1023, 0), x -> x.were(0, 1), Due.NONE);
        Edges.refused("26: other faults", pair(0b0101010101, 0b1010101010), x -> x.were(0, 1), Due.NONE);
        Edges.allowed("26: one in common", pair(0b0101010101, 0b1010101011), x -> x.were(0, 1), 30);
        Edges.allowed("26: the last fault in common", pair(512, 512), x -> x.were(0, 1), 1);
    }

    private static void quotients() {
        Edges.allowed("26: all ten", pair(1023, 1023), x -> x.were(0, 1), 10);
        Edges.allowed("26: 5 times 5 by 1", pair(0b0000011111, 0b0111110000), x -> x.were(0, 1), 25);
        Edges.allowed("26: 4 times 5 by 3 is cut", pair(0b001111, 0b111110), x -> x.were(0, 1), 6);
        Edges.allowed("26: 5 times 7 by 2, the most of ten is cut", pair(0b0000011111, 0b1111111000),
            x -> x.were(0, 1), 17);
        Edges.allowed("26: 6 times 5 by 1", pair(0b0000111111, 0b1111100000), x -> x.were(0, 1), 30);
    }
}
