/** Promise 5, has: what was told last of a day or ahead. */
public final class Promise05HasTest {
    private Promise05HasTest() {
    }

    public static void main(String[] args) {
        beyond();
        dayOfAChange();
        aheadOfItsComing();
        manyChanges();
        Due.close("Promise05HasTest");
    }

    private static void beyond() {
        Edges.range("5: ship", World::busy, (x, v) -> x.has(v, 0, 0), 0, World.SHIPS - 1);
        Edges.range("5: what", World::busy, (x, v) -> x.has(0, v, 0), 0, 2);
        Edges.range("5: day", World::busy, (x, v) -> x.has(0, 0, v), 0, 9999);
        Edges.refused("5: no ship, no what, no day", World::busy, x -> x.has(4, 3, 10000), Due.BEYOND);
    }

    private static void dayOfAChange() {
        int[] ships = {World.PLAIN, World.TANKER, World.GAS};
        int[] was = {5, 2, 2};
        int[] is = {7, 3, 0};
        for (int what = 0; what <= 2; what++) {
            int its = what;
            int ship = ships[what];
            Edges.allowed("5: day 0", World::busy, x -> x.has(ship, its, 0), was[what]);
            Edges.allowed("5: the eve of a change", World::busy, x -> x.has(ship, its, 99), was[what]);
            Edges.allowed("5: the day of a change", World::busy, x -> x.has(ship, its, 100), is[what]);
            Edges.allowed("5: a day to come", World::busy, x -> x.has(ship, its, World.DAY + 1), is[what]);
            Edges.allowed("5: the last day", World::busy, x -> x.has(ship, its, 9999), is[what]);
        }
        Edges.Calls twice = Edges.both(World::busy, x -> {
            x.change(World.PLAIN, 0, 20);
            x.change(World.PLAIN, 0, 21);
        });
        Edges.allowed("5: told last of a day", twice, x -> x.has(World.PLAIN, 0, World.DAY), 21);
        Edges.allowed("5: its eve", twice, x -> x.has(World.PLAIN, 0, World.DAY - 1), 7);
    }

    private static void aheadOfItsComing() {
        Edges.allowed("5: ahead of its coming, and of its being built", World::busy, x -> x.has(World.GAS, 0, 0), 7);
        Edges.Calls sameDay = Edges.both(World::busy, x -> {
            x.ship(0, 1234, 0);
            x.change(4, 0, 99);
        });
        Edges.allowed("5: changed on the day of its coming", sameDay, x -> x.has(4, 0, World.DAY), 99);
        Edges.allowed("5: what it came with, the day ahead", sameDay, x -> x.has(4, 0, World.DAY - 1), 12);
        Edges.Calls dayZero = x -> {
            x.ship(0, 1234, 0);
            x.change(0, 0, 99);
        };
        Edges.allowed("5: changed on day 0", dayZero, x -> x.has(0, 0, 0), 99);
        Edges.Calls lastDay = Edges.both(World::busy, x -> {
            x.day(9999);
            x.change(0, 0, 99);
        });
        Edges.allowed("5: changed on the last day", lastDay, x -> x.has(0, 0, 9999), 99);
        Edges.allowed("5: ahead of the last day", lastDay, x -> x.has(0, 0, 9998), 7);
    }

    private static void manyChanges() {
        PortLook x = new PortLook();
        x.ship(0, 0, 0);
        for (int i = 1; i <= 60; i++) {
            x.day(2 * i);
            x.change(0, 0, i);
        }
        for (int i = 0; i <= 60; i++) {
            Due.due("5: the day of change " + i + " of 60", x.has(0, 0, 2 * i), i);
            Due.due("5: the day behind change " + i + " of 60", x.has(0, 0, 2 * i + 1), i);
        }
    }
}
