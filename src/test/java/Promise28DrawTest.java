/** Promise 28, draw: a look is drawn once, with a chance of 1 to 100. */
public final class Promise28DrawTest {
    private Promise28DrawTest() {
    }

    public static void main(String[] args) {
        beyond();
        once();
        all();
        Due.close("Promise28DrawTest");
    }

    private static void beyond() {
        Edges.Calls none = Edges.both(World::busy, x -> {
            x.look(World.OPEN_CALL, 0, 0);
            x.look(World.OPEN_CALL, 0, 0);
        });
        Edges.range("28: chance", none, (x, v) -> x.draw(World.LOOK_NOT_DRAWN, v), 1, 100);
        Edges.beyond("28: look", none, (x, v) -> x.draw(v, 50), -1, World.LOOKS + 2, 60, Integer.MIN_VALUE,
            Integer.MAX_VALUE);
        Edges.allowed("28: the last look", none, x -> x.draw(World.LOOKS + 1, 50), 3);
        Edges.refused("28: no look, no chance", none, x -> x.draw(World.LOOKS + 2, 0), Due.BEYOND);
        Edges.Calls one = x -> {
            x.ship(0, 0, 0);
            x.call(0, 0);
            x.look(0, 0, 0);
        };
        Edges.range("28: look", one, (x, v) -> x.draw(v, 1), 0, 0);
    }

    private static void once() {
        Edges.refused("28: it was", World::busy, x -> x.draw(World.DRAWN_LOOK, 50), Due.STATE);
        Edges.refused("28: it was, with another chance", World::busy, x -> x.draw(World.DRAWN_LOOK, 1), Due.STATE);
        Edges.refused("28: no chance is asked ahead of STATE", World::busy, x -> x.draw(World.DRAWN_LOOK, 0),
            Due.BEYOND);
        Edges.refused("28: no chance is asked ahead of STATE", World::busy, x -> x.draw(World.DRAWN_LOOK, 101),
            Due.BEYOND);
        Edges.allowed("28: another one", World::busy, x -> x.draw(World.LOOK_NOT_DRAWN, 1), 3);
    }

    private static void all() {
        PortLook x = new PortLook();
        x.ship(0, 0, 0);
        x.call(0, 0);
        World.looks(x, 60);
        for (int i = 0; i < 60; i++) {
            Due.due("28: look " + i + " of 60", x.draw(i, 1 + i), i + 1);
        }
        Due.due("28: 60 are", x.count(7), 60);
        Due.due("28: the last one was", x.draw(59, 1), Due.STATE);
        Due.due("28: no 61st", x.draw(60, 1), Due.BEYOND);
        Due.due("28: 60 are, still", x.count(7), 60);
    }
}
