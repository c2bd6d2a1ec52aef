/** Promise 2, ship: kinds, classes, names, owners, flags, the day it was built, and 16 at most. */
public final class Promise02ShipTest {
    private Promise02ShipTest() {
    }

    public static void main(String[] args) {
        kindsAndClasses();
        namesOwnersAndFlags();
        built();
        full();
        Due.close("Promise02ShipTest");
    }

    private static void kindsAndClasses() {
        Edges.range("2: of", World::busy, (x, v) -> x.ship(v, 0, 0), 0, 33);
        for (int kind = 0; kind <= 3; kind++) {
            int of = 10 * kind;
            Edges.allowed("2: class 0 of kind " + kind, World::busy, x -> x.ship(of, 0, 0), 4);
            Edges.allowed("2: class 3 of kind " + kind, World::busy, x -> x.ship(of + 3, 0, 0), 4);
            Edges.beyond("2: no class", World::busy, (x, v) -> x.ship(v, 0, 0), of + 4, of + 9);
        }
        Edges.beyond("2: no kind", World::busy, (x, v) -> x.ship(v, 0, 0), 40, 43, 100, -10, -7);
    }

    private static void namesOwnersAndFlags() {
        Edges.range("2: as", World::busy, (x, v) -> x.ship(0, v, 0), 0, 9995);
        Edges.beyond("2: no flag", World::busy, (x, v) -> x.ship(0, v, 0), 6, 9, 16, 96, 106, 9906, 9999);
        Edges.beyond("2: no name", World::busy, (x, v) -> x.ship(0, v, 0), 10000, 10005, 65536, -100, -95);
        PortLook x = Edges.after(World::busy);
        x.ship(0, 9995, 0);
        x.ship(0, 0, 0);
        int[] last = {99, 5, 9};
        for (int what = 0; what <= 2; what++) {
            Due.due("2: the last of " + what, x.has(4, what, 0), last[what]);
            Due.due("2: the first of " + what, x.has(5, what, 0), 0);
        }
    }

    private static void built() {
        Edges.range("2: built", World::busy, (x, v) -> x.ship(0, 0, v), 0, World.DAY);
        Edges.Calls lastDay = Edges.both(World::busy, x -> x.day(9999));
        Edges.range("2: built, on the last day", lastDay, (x, v) -> x.ship(0, 0, v), 0, 9999);
        Edges.range("2: built, on the first day", Edges.NEW, (x, v) -> x.ship(0, 0, v), 0, 0);
    }

    private static void full() {
        Edges.Calls fifteen = Edges.both(World::busy, x -> World.ships(x, 15));
        Edges.Calls sixteen = Edges.both(World::busy, x -> World.ships(x, 16));
        Edges.allowed("2: the 16th", fifteen, x -> x.ship(33, 9995, World.DAY), 15);
        Edges.refused("2: the 17th", sixteen, x -> x.ship(33, 9995, World.DAY), Due.FULL);
        Edges.refused("2: the 17th, like the first one", sixteen, x -> x.ship(0, 0, 0), Due.FULL);
        Edges.refused("2: of is asked ahead of FULL", sixteen, x -> x.ship(34, 0, 0), Due.BEYOND);
        Edges.refused("2: as is asked ahead of FULL", sixteen, x -> x.ship(0, 6, 0), Due.BEYOND);
        Edges.refused("2: built is asked ahead of FULL", sixteen, x -> x.ship(0, 0, World.DAY + 1), Due.BEYOND);
    }
}
