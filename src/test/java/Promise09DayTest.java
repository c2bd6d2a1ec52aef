/** Promise 9, day: from 0 to 9999, and it never falls. */
public final class Promise09DayTest {
    private Promise09DayTest() {
    }

    public static void main(String[] args) {
        bounds();
        neverFalls();
        lastDay();
        Due.close("Promise09DayTest");
    }

    private static void bounds() {
        Edges.range("9: day, at first", Edges.NEW, (x, v) -> x.day(v), 0, 9999);
        Edges.range("9: day", World::busy, (x, v) -> x.day(v), World.DAY, 9999);
        Edges.refused("9: no day", World::busy, x -> x.day(-1), Due.BEYOND);
    }

    private static void neverFalls() {
        Edges.allowed("9: the same day", World::busy, x -> x.day(World.DAY), 0);
        Edges.allowed("9: the next day", World::busy, x -> x.day(World.DAY + 1), 1);
        Edges.refused("9: the day ahead", World::busy, x -> x.day(World.DAY - 1), Due.BEYOND);
        Edges.refused("9: the first day", World::busy, x -> x.day(0), Due.BEYOND);
        Edges.alike("9: the same day changes nothing", World::busy, Edges.both(World::busy, x -> x.day(World.DAY)));
    }

    private static void lastDay() {
        Edges.allowed("9: all the days", Edges.NEW, x -> x.day(9999), 9999);
        Edges.Calls last = Edges.both(World::busy, x -> x.day(9999));
        Edges.allowed("9: the last day again", last, x -> x.day(9999), 0);
        Edges.refused("9: the day ahead of the last one", last, x -> x.day(9998), Due.BEYOND);
        Edges.refused("9: behind the last one", last, x -> x.day(10000), Due.BEYOND);
    }
}
