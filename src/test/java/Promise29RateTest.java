/** Promise 29, rate: the true rate by drawn looks. */
public final class Promise29RateTest {
    private Promise29RateTest() {
    }

    public static void main(String[] args) {
        noneIsDrawn();
        leastAndMost();
        cut();
        sixty();
        Due.close("Promise29RateTest");
    }

    /** Look 0 holds, look 1 doesn't. */
    private static void looked(PortLook x) {
        Due.treaty(x, "g0s;", 0);
        x.ship(0, 0, 0);
        x.call(0, 0);
        x.look(0, 0, 1);
        x.look(0, 0, 0);
    }

    private static Edges.Calls drawn(int chance, int otherChance) {
        return x -> {
            looked(x);
            if (chance > 0) {
                x.draw(0, chance);
            }
            if (otherChance > 0) {
                x.draw(1, otherChance);
            }
        };
    }

    private static void noneIsDrawn() {
        Edges.refused("29: without looks", Edges.NEW, x -> x.rate(), Due.NONE);
        Edges.refused("29: none is drawn", Promise29RateTest::looked, x -> x.rate(), Due.NONE);
        Edges.refused("29: a refused draw is none", Edges.both(Promise29RateTest::looked, x -> x.draw(0, 0)),
            x -> x.rate(), Due.NONE);
    }

    private static void leastAndMost() {
        Edges.allowed("29: one that doesn't hold", drawn(0, 100), x -> x.rate(), 0);
        Edges.allowed("29: one that holds", drawn(100, 0), x -> x.rate(), 1000);
        Edges.allowed("29: the least chance holds", drawn(1, 100), x -> x.rate(), 990);
        Edges.allowed("29: the most chance holds", drawn(100, 1), x -> x.rate(), 9);
        Edges.allowed("29: alike", drawn(1, 1), x -> x.rate(), 500);
        Edges.allowed("29: alike", drawn(100, 100), x -> x.rate(), 500);
    }

    private static void cut() {
        // 10000 by 3 is 3333, by 7 is 1428: 3333000 by 4761.
        Edges.allowed("29: each quotient is cut", drawn(3, 7), x -> x.rate(), 700);
        // 10000 by 99 is 101, by 51 is 196: 101000 by 297 is 340.07.
        Edges.allowed("29: and the last one", drawn(99, 51), x -> x.rate(), 340);
        // 136 and 125: 521.07; uncut 136.99 and 125 would be 522.
        Edges.allowed("29: just below the next", drawn(73, 80), x -> x.rate(), 521);
    }

    private static void sixty() {
        PortLook x = new PortLook();
        Due.treaty(x, "g0s;", 0);
        x.ship(0, 0, 0);
        x.call(0, 0);
        for (int i = 0; i < 60; i++) {
            x.look(0, 0, i < 59 ? 1 : 0);
            x.draw(i, 1);
        }
        Due.due("29: 59 of 60 of the least chance", x.rate(), 983);
    }
}
