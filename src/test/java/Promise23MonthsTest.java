/** Promise 23, months: 1 to 99, and 36 at first. */
public final class Promise23MonthsTest {
    private Promise23MonthsTest() {
    }

    public static void main(String[] args) {
        beyond();
        whatItWas();
        Due.close("Promise23MonthsTest");
    }

    private static void beyond() {
        Edges.range("23: months", Edges.NEW, (x, v) -> x.months(v), 1, 99);
        Edges.range("23: months", World::busy, (x, v) -> x.months(v), 1, 99);
    }

    private static void whatItWas() {
        Edges.allowed("23: at first", Edges.NEW, x -> x.months(1), 36);
        Edges.allowed("23: the least", x -> x.months(1), x -> x.months(99), 1);
        Edges.allowed("23: the most", x -> x.months(99), x -> x.months(99), 99);
        Edges.allowed("23: behind a refused one", Edges.both(x -> x.months(7), x -> x.months(0)), x -> x.months(1), 7);
        Edges.alike("23: as many as they were", World::busy, Edges.both(World::busy, x -> x.months(24)));
    }
}
