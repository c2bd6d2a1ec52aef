/** Promise 13, feed: bytes from 0 to 255, and 60 at most on the tape. */
public final class Promise13FeedTest {
    private Promise13FeedTest() {
    }

    public static void main(String[] args) {
        noByte();
        full();
        Due.close("Promise13FeedTest");
    }

    private static void noByte() {
        Edges.range("13: byte", Edges.NEW, (x, v) -> x.feed(v), 0, 255);
        Edges.range("13: byte", World::busy, (x, v) -> x.feed(v), 0, 255);
        // Cut to a byte each of them would be a sign of a text.
        Edges.beyond("13: byte", World::busy, (x, v) -> x.feed(v), 256 + 's', 's' - 256, 65536 + 's');
    }

    private static void full() {
        Edges.Calls fiftyNine = Edges.both(World::busy, x -> World.tape(x, 59));
        Edges.Calls sixty = Edges.both(World::busy, x -> World.tape(x, 60));
        Edges.allowed("13: the 60th", fiftyNine, x -> x.feed(0), 60);
        Edges.refused("13: the 61st", sixty, x -> x.feed(0), Due.FULL);
        Edges.refused("13: the 61st, the last byte", sixty, x -> x.feed(255), Due.FULL);
        Edges.refused("13: no byte is asked ahead of FULL", sixty, x -> x.feed(256), Due.BEYOND);
        Edges.refused("13: no byte is asked ahead of FULL", sixty, x -> x.feed(-1), Due.BEYOND);
        Edges.allowed("13: the tape was read", Edges.both(sixty, x -> x.treaty(0)), x -> x.feed(0), 1);
    }
}
