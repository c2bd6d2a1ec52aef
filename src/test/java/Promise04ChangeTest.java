/** Promise 4, change: another name, flag or owner from the DAY on, and 60 at most of all. */
public final class Promise04ChangeTest {
    private Promise04ChangeTest() {
    }

    public static void main(String[] args) {
        beyond();
        whatItWas();
        full();
        Due.close("Promise04ChangeTest");
    }

    private static void beyond() {
        Edges.range("4: ship", World::busy, (x, v) -> x.change(v, 0, 0), 0, World.SHIPS - 1);
        Edges.range("4: what", World::busy, (x, v) -> x.change(0, v, 0), 0, 2);
        Edges.range("4: name", World::busy, (x, v) -> x.change(0, 0, v), 0, 99);
        Edges.range("4: flag", World::busy, (x, v) -> x.change(0, 1, v), 0, 5);
        Edges.range("4: owner", World::busy, (x, v) -> x.change(0, 2, v), 0, 9);
    }

    private static void whatItWas() {
        Edges.allowed("4: the name it came with", World::busy, x -> x.change(World.TANKER, 0, 99), 6);
        Edges.allowed("4: the flag that was changed", World::busy, x -> x.change(World.TANKER, 1, 5), 3);
        Edges.allowed("4: the owner it came with", World::busy, x -> x.change(World.TANKER, 2, 9), 1);
        Edges.Calls changed = Edges.both(World::busy, x -> x.change(World.TANKER, 0, 99));
        Edges.allowed("4: on one day again", changed, x -> x.change(World.TANKER, 0, 98), 99);
        Edges.allowed("4: to what it is", changed, x -> x.change(World.TANKER, 0, 99), 99);
        PortLook x = Edges.after(changed);
        Due.due("4: from the day on", x.has(World.TANKER, 0, World.DAY), 99);
        Due.due("4: not the day ahead", x.has(World.TANKER, 0, World.DAY - 1), 6);
    }

    private static void full() {
        Edges.Calls all = Edges.both(World::busy, x -> World.changes(x, 60));
        for (int what = 0; what <= 2; what++) {
            int its = what;
            PortLook x = Edges.after(Edges.both(World::busy, y -> World.changes(y, 59)));
            int was = x.has(World.GAS, its, World.DAY);
            Due.due("4: the 60th, of " + what, x.change(World.GAS, its, 5), was);
            Due.due("4: 60 changes", x.count(1), 60);
            Edges.refused("4: the 61st, of " + what, all, y -> y.change(World.GAS, its, 5), Due.FULL);
        }
        Edges.refused("4: the 61st, to what it is", all, x -> x.change(World.TANKER, 1, 3), Due.FULL);
        Edges.refused("4: the ship is asked ahead of FULL", all, x -> x.change(World.SHIPS, 0, 0), Due.BEYOND);
        Edges.refused("4: what is asked ahead of FULL", all, x -> x.change(0, 3, 0), Due.BEYOND);
        Edges.refused("4: the flag is asked ahead of FULL", all, x -> x.change(0, 1, 6), Due.BEYOND);
        Edges.Calls other = Edges.both(all, x -> x.day(9999));
        Edges.refused("4: the 61st, on another day", other, x -> x.change(0, 0, 0), Due.FULL);
    }
}
