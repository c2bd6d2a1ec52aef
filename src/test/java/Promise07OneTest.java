/** Promise 7, one: two owners are one, by 12 words at most. */
public final class Promise07OneTest {
    private Promise07OneTest() {
    }

    public static void main(String[] args) {
        beyond();
        theSame();
        full();
        Due.close("Promise07OneTest");
    }

    private static void beyond() {
        Edges.range("7: the first owner", World::busy, (x, v) -> x.one(v, 5), 0, 9);
        Edges.range("7: the second owner", World::busy, (x, v) -> x.one(5, v), 0, 9);
        Edges.refused("7: no owner, twice", World::busy, x -> x.one(10, 10), Due.BEYOND);
    }

    private static void theSame() {
        for (int owner = 0; owner <= 9; owner++) {
            int its = owner;
            Edges.refused("7: the same " + owner, World::busy, x -> x.one(its, its), Due.BEYOND);
        }
        Edges.allowed("7: they are one already", World::busy, x -> x.one(0, 1), 3);
        Edges.allowed("7: the other way round", World::busy, x -> x.one(1, 0), 3);
    }

    private static void full() {
        Edges.Calls eleven = Edges.both(World::busy, x -> World.words(x, 11));
        Edges.Calls twelve = Edges.both(World::busy, x -> World.words(x, 12));
        Edges.allowed("7: the 12th", eleven, x -> x.one(8, 3), 12);
        PortLook x = Edges.after(Edges.both(eleven, y -> y.one(8, 3)));
        x.ship(0, 80, 0);
        Due.due("7: the 12th joins", x.fleet(3, 0), 1 << World.GAS | 1 << World.BANNED_FERRY | 1 << 4);
        Edges.refused("7: the 13th", twelve, y -> y.one(8, 3), Due.FULL);
        Edges.refused("7: the 13th, told already", twelve, y -> y.one(0, 1), Due.FULL);
        Edges.refused("7: the same is asked ahead of FULL", twelve, y -> y.one(3, 3), Due.BEYOND);
        Edges.refused("7: no owner is asked ahead of FULL", twelve, y -> y.one(3, 10), Due.BEYOND);
    }
}
