/** Promise 6, named: the least ship that has a name on a day. */
public final class Promise06NamedTest {
    private Promise06NamedTest() {
    }

    public static void main(String[] args) {
        beyond();
        none();
        least();
        Due.close("Promise06NamedTest");
    }

    private static void beyond() {
        Edges.Calls firstAndLast = Edges.both(World::busy, x -> {
            x.ship(0, 0, 0);
            x.ship(0, 9900, 0);
        });
        Edges.range("6: name", firstAndLast, (x, v) -> x.named(v, 0), 0, 99);
        Edges.range("6: day", firstAndLast, (x, v) -> x.named(99, v), 0, 9999);
        Edges.refused("6: no name is asked ahead of NONE", Edges.NEW, x -> x.named(100, 0), Due.BEYOND);
        Edges.refused("6: no day is asked ahead of NONE", Edges.NEW, x -> x.named(0, 10000), Due.BEYOND);
    }

    private static void none() {
        Edges.refused("6: without ships", Edges.NEW, x -> x.named(0, 0), Due.NONE);
        Edges.refused("6: without ships, the last of all", Edges.NEW, x -> x.named(99, 9999), Due.NONE);
        Edges.refused("6: none bears it", World::busy, x -> x.named(0, World.DAY), Due.NONE);
        Edges.allowed("6: the eve of a change", World::busy, x -> x.named(5, 99), World.PLAIN);
        Edges.refused("6: none bears it any more", World::busy, x -> x.named(5, 100), Due.NONE);
    }

    private static void least() {
        Edges.allowed("6: the eve, another one bears it", World::busy, x -> x.named(7, 99), World.GAS);
        Edges.allowed("6: two bear it, the first ship", World::busy, x -> x.named(7, 100), World.PLAIN);
        Edges.Calls full = Edges.both(World::busy, x -> {
            World.ships(x, 15);
            x.ship(0, 9900, 0);
        });
        Edges.allowed("6: the last ship", full, x -> x.named(99, 0), 15);
    }
}
