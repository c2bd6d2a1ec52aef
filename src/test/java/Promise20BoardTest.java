/** Promise 20, board: ports, hours, ships, the 8 with the least numbers, and what is liked best. */
public final class Promise20BoardTest {
    private Promise20BoardTest() {
    }

    public static void main(String[] args) {
        beyond();
        hours();
        none();
        emptyPort();
        hoursOfEachKind();
        eightAtMost();
        likedBest();
        mostRisk();
        oneBehindAnother();
        Due.close("Promise20BoardTest");
    }

    private static void beyond() {
        Edges.range("20: port", World::busy, (x, v) -> x.board(v, 0, -1), 0, 4);
        Edges.Calls three = inPort(3);
        Edges.range("20: what", three, (x, v) -> x.board(2, 300, v), -1, 2);
        Edges.refused("20: no such ship is asked ahead of NONE", three, x -> x.board(1, 300, 3), Due.BEYOND);
        Edges.beyond("20: no 17th ship", inPort(16), (x, v) -> x.board(2, 300, v), 16);
    }

    /** Every number of hours about the edges of both numbers. */
    private static void hours() {
        Edges.range("20: hours", World::busy, (x, v) -> x.board(0, v, -1), 0, 2424);
        for (int first = 0; first <= 26; first++) {
            for (int second : new int[] {0, 1, 23, 24, 25, 50, 99}) {
                int both = 100 * first + second;
                String test = "20: hours " + both;
                int got = Edges.after(World::busy).board(0, both, -1);
                boolean may = first <= 24 && second <= 24;
                Due.holds(test, may ? got >= 0 : got == Due.BEYOND);
            }
        }
        Edges.beyond("20: hours of the second", World::busy, (x, v) -> x.board(0, v, -1), 25, 99, 125, 2399, -24, -76);
        Edges.beyond("20: hours of the first", World::busy, (x, v) -> x.board(0, v, -1), 2500, 2524, 10000, -100, -2424);
        Edges.refused("20: hours are asked ahead of NONE", World::busy, x -> x.board(4, 25, 0), Due.BEYOND);
        Edges.refused("20: the port is asked ahead of NONE", World::busy, x -> x.board(5, 0, World.GAS), Due.BEYOND);
    }

    private static void none() {
        Edges.allowed("20: it is there", World::busy, x -> x.board(1, 2424, World.GAS), 1);
        Edges.refused("20: it is in another port", World::busy, x -> x.board(0, 2424, World.GAS), Due.NONE);
        Edges.refused("20: the first ship is in another port", World::busy, x -> x.board(1, 2424, World.PLAIN), Due.NONE);
        Edges.refused("20: it is at sea", World::busy, x -> x.board(4, 2424, World.BANNED_FERRY), Due.NONE);
        Edges.Calls left = Edges.both(World::busy, x -> x.leave(World.GAS_CALL));
        Edges.refused("20: it left", left, x -> x.board(1, 2424, World.GAS), Due.NONE);
    }

    private static void emptyPort() {
        Edges.allowed("20: an empty port", World::busy, x -> x.board(4, 2424, -1), 0);
        Edges.allowed("20: no hours", World::busy, x -> x.board(0, 0, -1), 0);
        Edges.allowed("20: no hours, to none", World::busy, x -> x.board(0, 0, World.PLAIN), 0);
    }

    private static void hoursOfEachKind() {
        int[] needed = {3, 5, 7, 4};
        for (int kind = 0; kind <= 3; kind++) {
            int of = 10 * kind;
            int hours = needed[kind];
            Edges.Calls called = x -> {
                x.ship(of, 0, 0);
                x.call(0, 0);
            };
            Edges.allowed("20: just its hours, the first", called, x -> x.board(0, 100 * hours, 0), 1);
            Edges.allowed("20: just its hours, the second", called, x -> x.board(0, hours, 0), 2);
            Edges.allowed("20: an hour less, the first", called, x -> x.board(0, 100 * hours - 100, 0), 0);
            Edges.allowed("20: an hour less, the second", called, x -> x.board(0, hours - 1, 0), 0);
            Edges.allowed("20: an hour less of both", called, x -> x.board(0, 101 * (hours - 1), -1), 0);
        }
    }

    private static Edges.Calls inPort(int ships) {
        return x -> {
            World.ships(x, ships);
            for (int s = ships - 1; s >= 0; s--) {
                x.call(s, 2);
            }
        };
    }

    private static void eightAtMost() {
        Edges.allowed("20: eight", inPort(8), x -> x.board(2, 2424, -1), 8);
        Edges.allowed("20: the eighth", inPort(8), x -> x.board(2, 2424, 7), 1);
        Edges.allowed("20: nine", inPort(9), x -> x.board(2, 2424, -1), 8);
        Edges.allowed("20: the eighth of nine", inPort(9), x -> x.board(2, 2424, 7), 1);
        Edges.refused("20: the ninth", inPort(9), x -> x.board(2, 2424, 8), Due.NONE);
        Edges.allowed("20: sixteen", inPort(16), x -> x.board(2, 2424, -1), 8);
        Edges.refused("20: the sixteenth", inPort(16), x -> x.board(2, 2424, 15), Due.NONE);
        // The call of ship s is the number 15 less s.
        Edges.Calls firstLeft = Edges.both(inPort(16), x -> x.leave(15));
        Edges.allowed("20: the ninth, when the first left", firstLeft, x -> x.board(2, 2424, 8), 1);
        Edges.refused("20: the tenth, when the first left", firstLeft, x -> x.board(2, 2424, 9), Due.NONE);
        Edges.allowed("20: eight, an hour short with the second one", inPort(8), x -> x.board(2, 2302, -1), 7);
        Edges.allowed("20: seven with the first one", inPort(8), x -> x.board(2, 2100, -1), 7);
        Edges.allowed("20: seven, an hour short", inPort(8), x -> x.board(2, 2000, -1), 6);
    }

    private static void whom(String test, Edges.Calls ahead, int port, int hours, int... want) {
        for (int s = 0; s < want.length; s++) {
            int ship = s;
            Edges.allowed("20: " + test + ", ship " + s, ahead, x -> x.board(port, hours, ship), want[s]);
        }
    }

    private static void likedBest() {
        whom("all to the first one", inPort(8), 2, 2424, 1, 1, 1, 1, 1, 1, 1, 1);
        whom("two each", inPort(8), 2, 606, 1, 1, 2, 2, 0, 0, 0, 0);
        whom("an hour short of two", inPort(8), 2, 505, 1, 2, 0, 0, 0, 0, 0, 0);
        whom("to the second one alone", inPort(8), 2, 2, 0, 0, 0, 0, 0, 0, 0, 0);
        whom("just one to the second one", inPort(8), 2, 3, 2, 0, 0, 0, 0, 0, 0, 0);
        whom("seven to the first one", inPort(8), 2, 2103, 1, 1, 1, 1, 1, 1, 1, 2);
        // Hours 3, 5, 7, 4; risks 1, 2, 2, 1: with 5 and 7 the ships 0, 1, 3 are worth as much as 1 and 2.
        Edges.Calls kinds = x -> {
            for (int kind = 0; kind <= 3; kind++) {
                x.ship(10 * kind, 0, 0);
                x.call(kind, 2);
            }
        };
        whom("the least number goes to the second one", kinds, 2, 507, 2, 1, 0, 2);
        whom("the least number goes to the first one", kinds, 2, 705, 1, 2, 0, 1);
        whom("not the least, for more risk", kinds, 2, 500, 0, 1, 0, 0);
        whom("all hours are just enough", kinds, 2, 712, 1, 2, 2, 1);
    }

    private static void mostRisk() {
        Edges.Calls old = x -> {
            for (int s = 0; s < 8; s++) {
                x.ship(10, 0, 0);
                x.call(s, 0);
            }
            x.day(9999);
        };
        Edges.allowed("20: four each of eight tankers", old, x -> x.board(0, 2424, -1), 8 * 16);
        Edges.allowed("20: four of them", old, x -> x.board(0, 2404, -1), 4 * 16);
        Edges.allowed("20: held ones too", World::busy, x -> x.board(0, 500, World.TANKER), 1);
    }

    /** What an earlier boarding came to must not be left in a later one. */
    private static void oneBehindAnother() {
        Edges.Calls boarded = Edges.both(inPort(8), x -> x.board(2, 2424, -1));
        Edges.allowed("20: fewer hours", boarded, x -> x.board(2, 300, -1), 1);
        Edges.allowed("20: fewer hours, to the first one", boarded, x -> x.board(2, 300, 0), 1);
        Edges.allowed("20: fewer hours, to none", boarded, x -> x.board(2, 300, 1), 0);
        Edges.allowed("20: no hours", boarded, x -> x.board(2, 0, -1), 0);
        Edges.allowed("20: no hours, to none", boarded, x -> x.board(2, 0, 0), 0);
        Edges.allowed("20: an empty port", boarded, x -> x.board(3, 2424, -1), 0);
        Edges.refused("20: an empty port, a ship", boarded, x -> x.board(3, 2424, 0), Due.NONE);
        Edges.alike("20: a boarding changes nothing", inPort(8), boarded);
    }
}
