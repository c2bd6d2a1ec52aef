/** Promise 27, habit: what an inspector finds of what others find. */
public final class Promise27HabitTest {
    private Promise27HabitTest() {
    }

    public static void main(String[] args) {
        beyond();
        othersFoundNothing();
        leastAndMost();
        overAllDoubles();
        sixty();
        Due.close("Promise27HabitTest");
    }

    /** Looks at one call by inspectors 0 and 5, with these faults. */
    private static Edges.Calls pair(int faults, int others) {
        return x -> {
            x.ship(0, 0, 0);
            x.call(0, 0);
            x.look(0, 0, faults);
            x.look(0, 5, others);
        };
    }

    private static void beyond() {
        Edges.range("27: inspector", pair(1, 1), (x, v) -> x.habit(v), 0, 5);
        Edges.beyond("27: inspector", World::busy, (x, v) -> x.habit(v), -1, 6, Integer.MIN_VALUE, Integer.MAX_VALUE);
        Edges.refused("27: no inspector is asked ahead of NONE", Edges.NEW, x -> x.habit(6), Due.BEYOND);
    }

    private static void othersFoundNothing() {
        Edges.refused("27: without looks", Edges.NEW, x -> x.habit(5), Due.NONE);
        Edges.refused("27: none of its own", pair(1, 1), x -> x.habit(1), Due.NONE);
        Edges.refused("27: others found nothing", pair(1023, 0), x -> x.habit(0), Due.NONE);
        Edges.allowed("27: others found one", pair(1023, 1), x -> x.habit(0), 100);
        Edges.Calls alone = x -> {
            x.ship(0, 0, 0);
            x.call(0, 0);
            x.look(0, 0, 1023);
            x.look(0, 0, 1023);
        };
        Edges.refused("27: its own looks are no doubles", alone, x -> x.habit(0), Due.NONE);
        Edges.Calls twoCalls = x -> {
            World.ships(x, 2);
            x.call(0, 0);
            x.call(1, 0);
            x.look(0, 0, 1023);
            x.look(1, 1, 1023);
        };
        Edges.refused("27: looks at two calls are none", twoCalls, x -> x.habit(0), Due.NONE);
    }

    private static void leastAndMost() {
        Edges.allowed("27: it found nothing", pair(0, 1023), x -> x.habit(0), 0);
        Edges.allowed("27: it found others", pair(0b11, 0b1100), x -> x.habit(0), 0);
        Edges.allowed("27: it found all", pair(1023, 1023), x -> x.habit(0), 100);
        Edges.allowed("27: all, and more", pair(1023, 1), x -> x.habit(0), 100);
        Edges.allowed("27: two of three are cut", pair(0b011, 0b111), x -> x.habit(0), 66);
        Edges.allowed("27: one of ten", pair(1, 1023), x -> x.habit(0), 10);
        Edges.allowed("27: six of seven are cut", pair(0b111111, 0b1111111), x -> x.habit(0), 85);
    }

    private static void overAllDoubles() {
        Edges.Calls three = Edges.both(pair(0b1, 0b111), x -> x.look(0, 3, 0b1001));
        // Of 3 and 2 it found 1 and 1.
        Edges.allowed("27: two others", three, x -> x.habit(0), 40);
        // Of 1 and 2 it found 1 and 1.
        Edges.allowed("27: the second one's", three, x -> x.habit(5), 66);
        Edges.Calls again = Edges.both(three, x -> x.look(0, 0, 0b111));
        // Of 3, 2, 3 and 2 it found 1, 1, 3 and 1.
        Edges.allowed("27: each of its looks with each", again, x -> x.habit(0), 60);
    }

    private static void sixty() {
        Edges.Calls most = x -> {
            x.ship(0, 0, 0);
            x.call(0, 0);
            for (int i = 0; i < 60; i++) {
                x.look(0, i % 2, 1023);
            }
        };
        Edges.allowed("27: 900 doubles of ten faults", most, x -> x.habit(0), 100);
    }
}
