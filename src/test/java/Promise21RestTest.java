/** Promise 21, rest: 24 bits a day, and the eighth day puts the first one away. */
public final class Promise21RestTest {
    private static final int ALL_DAY = 16777215;

    private Promise21RestTest() {
    }

    public static void main(String[] args) {
        beyond();
        bits();
        oldestGoes();
        eachShipItsOwn();
        Due.close("Promise21RestTest");
    }

    private static void beyond() {
        Edges.range("21: ship", World::busy, (x, v) -> x.rest(v, 0), 0, World.SHIPS - 1);
        Edges.range("21: bits", World::busy, (x, v) -> x.rest(0, v), 0, ALL_DAY);
        Edges.beyond("21: bits", World::busy, (x, v) -> x.rest(0, v), 1 << 25, 1 << 30, (1 << 24) + 1);
        Edges.refused("21: no ship, no bits", World::busy, x -> x.rest(World.SHIPS, -1), Due.BEYOND);
    }

    private static void bits() {
        Edges.Calls one = x -> x.ship(0, 0, 0);
        Edges.allowed("21: no hour", one, x -> x.rest(0, 0), 0);
        Edges.allowed("21: the first hour", one, x -> x.rest(0, 1), 1);
        Edges.allowed("21: the last hour", one, x -> x.rest(0, 1 << 23), 1);
        Edges.allowed("21: all hours", one, x -> x.rest(0, ALL_DAY), 24);
    }

    private static Edges.Calls days(int n, int bits) {
        return x -> {
            x.ship(0, 0, 0);
            x.rest(0, 0b111);
            for (int i = 1; i < n; i++) {
                x.rest(0, bits);
            }
        };
    }

    private static void oldestGoes() {
        Edges.allowed("21: the seventh day", days(6, 1), x -> x.rest(0, 1), 9);
        Edges.allowed("21: the eighth day", days(7, 1), x -> x.rest(0, 1), 7);
        Edges.allowed("21: the ninth day", days(8, 1), x -> x.rest(0, 0b11), 8);
        Edges.allowed("21: the most", days(7, ALL_DAY), x -> x.rest(0, ALL_DAY), 168);
        Edges.allowed("21: no longer the most", days(8, ALL_DAY), x -> x.rest(0, ALL_DAY - 1), 167);
        PortLook x = new PortLook();
        x.ship(0, 0, 0);
        int[] told = new int[40];
        for (int i = 0; i < told.length; i++) {
            told[i] = (1 << i % 9) - 1;
            int want = 0;
            for (int j = Math.max(0, i - 6); j <= i; j++) {
                want += Integer.bitCount(told[j]);
            }
            Due.due("21: day " + i + " of 40", x.rest(0, told[i]), want);
        }
        Due.due("21: no day of it is a DAY", x.count(6), 0);
    }

    private static void eachShipItsOwn() {
        Edges.Calls sixteen = x -> {
            World.ships(x, 16);
            x.rest(15, ALL_DAY);
        };
        Edges.allowed("21: the last ship", sixteen, x -> x.rest(15, 1), 25);
        Edges.allowed("21: the one ahead of it", sixteen, x -> x.rest(14, 1), 1);
    }
}
