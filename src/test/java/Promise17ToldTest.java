/** Promise 17, told: what a look tells. */
public final class Promise17ToldTest {
    private Promise17ToldTest() {
    }

    public static void main(String[] args) {
        beyond();
        leastAndMost();
        Due.close("Promise17ToldTest");
    }

    private static void beyond() {
        Edges.range("17: look", World::busy, (x, v) -> x.told(v, 0), 0, World.LOOKS - 1);
        Edges.range("17: what", World::busy, (x, v) -> x.told(0, v), 0, 4);
        Edges.refused("17: no look, no what", World::busy, x -> x.told(World.LOOKS, 5), Due.BEYOND);
        Edges.range("17: look of 60", Edges.both(World::busy, x -> World.looks(x, 60)), (x, v) -> x.told(v, 0), 0, 59);
    }

    private static void leastAndMost() {
        Edges.Calls looked = x -> {
            World.ships(x, 2);
            x.call(0, 0);
            x.call(1, 0);
            x.look(0, 0, 0);
            x.day(9999);
            Due.treaty(x, "g9s;", 9999);
            x.look(1, 5, 1023);
        };
        int[] least = {0, 0, 0, 0, 0};
        int[] most = {1, 5, 9999, 1023, 1};
        for (int what = 0; what <= 4; what++) {
            int its = what;
            Edges.allowed("17: the least of " + what, looked, x -> x.told(0, its), least[what]);
            Edges.allowed("17: the most of " + what, looked, x -> x.told(1, its), most[what]);
        }
    }
}
