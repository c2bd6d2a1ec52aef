/** Promise 30, tell: any number, and 16 at most wait. */
public final class Promise30TellTest {
    private Promise30TellTest() {
    }

    public static void main(String[] args) {
        anyNumber();
        full();
        Due.close("Promise30TellTest");
    }

    private static void anyNumber() {
        for (int v : new int[] {Integer.MIN_VALUE, -1000001, -1, 0, 1, Integer.MAX_VALUE}) {
            Edges.allowed("30: " + v, Edges.NEW, x -> x.tell(v), 1);
            Edges.allowed("30: behind two, " + v, World::busy, x -> x.tell(v), 3);
        }
    }

    private static void full() {
        Edges.Calls fifteen = Edges.both(World::busy, x -> World.waiting(x, 15));
        Edges.Calls sixteen = Edges.both(World::busy, x -> World.waiting(x, 16));
        Edges.allowed("30: the 16th", fifteen, x -> x.tell(Integer.MAX_VALUE), 16);
        Edges.refused("30: the 17th", sixteen, x -> x.tell(0), Due.FULL);
        Edges.refused("30: the 17th, the least number", sixteen, x -> x.tell(Integer.MIN_VALUE), Due.FULL);
        Edges.allowed("30: behind check the first", Edges.both(sixteen, x -> x.check()), x -> x.tell(0), 1);
    }
}
