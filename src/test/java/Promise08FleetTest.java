/** Promise 8, fleet: ships of an owner, or of one that is one with it, on a day. */
public final class Promise08FleetTest {
    private Promise08FleetTest() {
    }

    public static void main(String[] args) {
        beyond();
        emptyAndFull();
        overOthers();
        dayOfAChange();
        Due.close("Promise08FleetTest");
    }

    private static void beyond() {
        Edges.range("8: owner", World::busy, (x, v) -> x.fleet(v, 0), 0, 9);
        Edges.range("8: day", World::busy, (x, v) -> x.fleet(0, v), 0, 9999);
    }

    private static void emptyAndFull() {
        Edges.allowed("8: without ships", Edges.NEW, x -> x.fleet(9, 9999), 0);
        Edges.allowed("8: of an owner without any", World::busy, x -> x.fleet(9, World.DAY), 0);
        for (int owner = 0; owner <= 9; owner++) {
            int its = owner;
            Edges.allowed("8: no two are one at first, " + owner, Promise08FleetTest::tenOwners, x -> x.fleet(its, 0),
                1 << its);
        }
        Edges.allowed("8: of all 16 ships", x -> World.ships(x, 16), x -> x.fleet(0, 0), 65535);
        Edges.allowed("8: the others have none of them", x -> World.ships(x, 16), x -> x.fleet(1, 0), 0);
    }

    /** Ship k is of owner k. */
    private static void tenOwners(PortLook x) {
        for (int owner = 0; owner <= 9; owner++) {
            x.ship(0, 10 * owner, 0);
        }
    }

    /** Nine words make ten owners one. */
    private static void chain(PortLook x) {
        tenOwners(x);
        for (int owner = 0; owner < 9; owner += 2) {
            x.one(owner, owner + 1);
        }
        for (int owner = 1; owner < 8; owner += 2) {
            x.one(owner + 1, owner);
        }
    }

    private static void overOthers() {
        for (int owner = 0; owner <= 9; owner++) {
            int its = owner;
            Edges.allowed("8: ten are one, asked of " + owner, Promise08FleetTest::chain, x -> x.fleet(its, 0), 1023);
        }
        Edges.allowed("8: one by a word", World::busy, x -> x.fleet(1, 99), 1 << World.PLAIN | 1 << World.TANKER);
        Edges.Calls joined = Edges.both(World::busy, x -> x.one(3, 1));
        Edges.allowed("8: one over two others, on days gone by too", joined, x -> x.fleet(0, 0), 15);
    }

    private static void dayOfAChange() {
        Edges.allowed("8: the eve", World::busy, x -> x.fleet(0, 99), 0b0011);
        Edges.allowed("8: the day", World::busy, x -> x.fleet(0, 100), 0b0111);
        Edges.allowed("8: the eve, of the one it leaves", World::busy, x -> x.fleet(2, 99), 0b1100);
        Edges.allowed("8: the day, of the one it leaves", World::busy, x -> x.fleet(2, 100), 0b1000);
        Edges.allowed("8: the last day", World::busy, x -> x.fleet(0, 9999), 0b0111);
    }
}
