/** Promise 10, call: one port at most for a ship, none for a banned one, and 50 calls at most. */
public final class Promise10CallTest {
    private Promise10CallTest() {
    }

    public static void main(String[] args) {
        beyond();
        inAPort();
        banned();
        full();
        Due.close("Promise10CallTest");
    }

    private static final Edges.Calls LEFT = Edges.both(World::busy, x -> x.leave(World.GAS_CALL));

    private static void beyond() {
        Edges.Calls atSea = x -> World.ships(x, 3);
        Edges.range("10: ship", atSea, (x, v) -> x.call(v, 0), 0, 2);
        Edges.range("10: port", LEFT, (x, v) -> x.call(World.GAS, v), 0, 4);
        Edges.refused("10: no ship", World::busy, x -> x.call(World.SHIPS, 0), Due.BEYOND);
    }

    private static void inAPort() {
        Edges.refused("10: in that port", World::busy, x -> x.call(World.GAS, 1), Due.STATE);
        Edges.refused("10: in another port", World::busy, x -> x.call(World.GAS, 2), Due.STATE);
        Edges.refused("10: held in a port", World::busy, x -> x.call(World.TANKER, 2), Due.STATE);
        Edges.refused("10: no port is asked ahead of STATE", World::busy, x -> x.call(World.GAS, 5), Due.BEYOND);
        Edges.allowed("10: on the day when it left", LEFT, x -> x.call(World.GAS, 1), World.CALLS);
    }

    private static void banned() {
        Edges.refused("10: banned", World::busy, x -> x.call(World.BANNED_FERRY, 0), Due.STATE);
        Edges.refused("10: no port is asked ahead of BANNED", World::busy, x -> x.call(World.BANNED_FERRY, 5),
            Due.BEYOND);
        Edges.Calls late = Edges.both(World::busy, x -> x.day(9999));
        Edges.refused("10: banned, unless it is lifted", late, x -> x.call(World.BANNED_FERRY, 0), Due.STATE);
        Edges.Calls lifted = Edges.both(late, x -> x.lift(World.BANNED_FERRY));
        Edges.allowed("10: the ban is lifted", lifted, x -> x.call(World.BANNED_FERRY, 0), World.CALLS);
    }

    private static void full() {
        Edges.Calls shipsToo = Edges.both(World::busy, x -> World.ships(x, 5));
        Edges.Calls fortyNine = Edges.both(shipsToo, x -> World.calls(x, 49));
        Edges.Calls fifty = Edges.both(shipsToo, x -> World.calls(x, 50));
        Edges.allowed("10: the 50th", fortyNine, x -> x.call(4, 4), 49);
        Edges.refused("10: the 51st", fifty, x -> x.call(4, 4), Due.FULL);
        Edges.refused("10: no port is asked ahead of FULL", fifty, x -> x.call(4, 5), Due.BEYOND);
        Edges.refused("10: in a port is asked ahead of FULL", fifty, x -> x.call(World.GAS, 0), Due.STATE);
        Edges.refused("10: banned is asked ahead of FULL", fifty, x -> x.call(World.BANNED_FERRY, 0), Due.STATE);
        Edges.Calls allOver = Edges.both(fifty, x -> x.leave(49));
        Edges.refused("10: calls that are over count", allOver, x -> x.call(World.GAS, 0), Due.FULL);
    }
}
