/** Promise 32, count: each number at its least and at its most. */
public final class Promise32CountTest {
    private Promise32CountTest() {
    }

    public static void main(String[] args) {
        beyond();
        inUse();
        most();
        refusedOnesDoNotCount();
        Due.close("Promise32CountTest");
    }

    private static void beyond() {
        Edges.range("32: what", Edges.NEW, (x, v) -> x.count(v), 0, 11);
        Edges.range("32: what", World::busy, (x, v) -> x.count(v), 0, 11);
    }

    private static void inUse() {
        int[] want = {World.SHIPS, 3, World.CALLS, World.LOOKS, 2, 2, World.DAY, 2, 3, 1, 1, 2};
        for (int what = 0; what < want.length; what++) {
            int its = what;
            Edges.allowed("32: in use, " + what, World::busy, x -> x.count(its), want[what]);
        }
    }

    private static void count(String test, int what, Edges.Calls ahead, int want) {
        Edges.allowed("32: " + test, ahead, x -> x.count(what), want);
    }

    /** All 16 ships in ports, each held three times, hence banned. */
    private static void allHeld(PortLook x) {
        Due.treaty(x, "g0s;", 0);
        World.ships(x, 16);
        for (int s = 0; s < 16; s++) {
            x.call(s, s % 5);
            Due.look(x, s, 1, 3);
        }
    }

    private static void most() {
        count("16 ships", 0, Edges.both(World::busy, x -> World.ships(x, 16)), 16);
        count("60 changes", 1, Edges.both(World::busy, x -> World.changes(x, 60)), 60);
        count("50 calls", 2, Edges.both(World::busy, x -> World.calls(x, 50)), 50);
        count("60 looks", 3, Edges.both(World::busy, x -> World.looks(x, 60)), 60);
        count("6 treaties", 4, Edges.both(World::busy, x -> World.treaties(x, 6)), 6);
        count("60 bytes", 5, Edges.both(World::busy, x -> World.tape(x, 60)), 60);
        count("the last day", 6, Edges.both(World::busy, x -> x.day(9999)), 9999);
        count("16 ships in ports", 8, Promise32CountTest::allHeld, 16);
        count("16 calls that are held", 9, Promise32CountTest::allHeld, 16);
        count("16 banned ships", 10, Promise32CountTest::allHeld, 16);
        count("16 that wait", 11, Edges.both(World::busy, x -> World.waiting(x, 16)), 16);
        count("all 60 are drawn", 7, Edges.both(Edges.both(World::busy, x -> World.looks(x, 60)), x -> {
            for (int l = 0; l < 60; l++) {
                x.draw(l, 100);
            }
        }), 60);
    }

    private static void refusedOnesDoNotCount() {
        count("no 17th ship", 0, x -> World.ships(x, 17), 16);
        Edges.Calls oneMore = x -> {
            World.busy(x);
            World.changes(x, 60);
            x.change(0, 0, 0);
            World.looks(x, 60);
            x.look(0, 0, 0);
            World.tape(x, 60);
            x.feed(0);
            World.waiting(x, 16);
            x.tell(0);
        };
        count("no 61st change", 1, oneMore, 60);
        count("no 61st look", 3, oneMore, 60);
        count("no 61st byte", 5, oneMore, 60);
        count("no 17th that waits", 11, oneMore, 16);
    }
}
