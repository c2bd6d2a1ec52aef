/** Promise 3, as: a ship as one of a kind. */
public final class Promise03AsTest {
    private Promise03AsTest() {
    }

    public static void main(String[] args) {
        noSuchShip();
        noSuchKind();
        notOfThatKind();
        Due.close("Promise03AsTest");
    }

    private static void noSuchShip() {
        Edges.range("3: ship", World::busy, (x, v) -> x.as(v, 0), 0, World.SHIPS - 1);
        Edges.range("3: ship of 16", x -> World.ships(x, 16), (x, v) -> x.as(v, 0), 0, 15);
        Edges.refused("3: no ship is asked ahead of KIND", World::busy, x -> x.as(World.SHIPS, 1), Due.BEYOND);
    }

    private static void noSuchKind() {
        Edges.allowed("3: kind 0 of a ferry", World::busy, x -> x.as(World.BANNED_FERRY, 0), 4);
        Edges.range("3: kind", World::busy, (x, v) -> x.as(World.BANNED_FERRY, v), 0, 3);
        Edges.allowed("3: kind 3 of a ferry", World::busy, x -> x.as(World.BANNED_FERRY, 3), 4);
    }

    private static void notOfThatKind() {
        int k = Due.KIND;
        int[][] want = {{3, k, k, k}, {5, 5, k, k}, {7, 7, 7, k}, {4, k, k, 4}};
        for (int ship = 0; ship <= 3; ship++) {
            for (int kind = 0; kind <= 3; kind++) {
                int s = ship;
                int its = kind;
                String test = "3: kind " + ship + " as " + kind;
                if (want[ship][kind] == k) {
                    Edges.refused(test, World::busy, x -> x.as(s, its), k);
                } else {
                    Edges.allowed(test, World::busy, x -> x.as(s, its), want[ship][kind]);
                }
            }
        }
    }
}
