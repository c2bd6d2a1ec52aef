/** Promise 12, of: what a call tells. */
public final class Promise12OfTest {
    private Promise12OfTest() {
    }

    public static void main(String[] args) {
        beyond();
        fromDayZeroToTheLast();
        heldAndLooks();
        Due.close("Promise12OfTest");
    }

    private static void beyond() {
        Edges.range("12: call", World::busy, (x, v) -> x.of(v, 0), 0, World.CALLS - 1);
        Edges.range("12: what", World::busy, (x, v) -> x.of(0, v), 0, 5);
        Edges.range("12: what, of one that is over", World::busy, (x, v) -> x.of(World.CALL_OVER, v), 0, 5);
        Edges.refused("12: no call, no what", World::busy, x -> x.of(World.CALLS, 6), Due.BEYOND);
        Edges.range("12: call of 50", Edges.both(World::busy, x -> World.calls(x, 50)), (x, v) -> x.of(v, 0), 0, 49);
    }

    private static void fromDayZeroToTheLast() {
        Edges.Calls called = x -> {
            World.ships(x, 16);
            x.call(15, 4);
        };
        Edges.allowed("12: the last ship", called, x -> x.of(0, 0), 15);
        Edges.allowed("12: the last port", called, x -> x.of(0, 1), 4);
        Edges.allowed("12: from day 0", called, x -> x.of(0, 2), 0);
        Edges.allowed("12: not over", called, x -> x.of(0, 3), -1);
        Edges.allowed("12: over on day 0", Edges.both(called, x -> x.leave(0)), x -> x.of(0, 3), 0);
        Edges.Calls late = Edges.both(called, x -> {
            x.day(9999);
            x.leave(0);
            x.call(14, 0);
        });
        Edges.allowed("12: over on the last day", late, x -> x.of(0, 3), 9999);
        Edges.allowed("12: from the last day", late, x -> x.of(1, 2), 9999);
    }

    private static void heldAndLooks() {
        Edges.allowed("12: held", World::busy, x -> x.of(World.HELD_CALL, 4), 1);
        Edges.allowed("12: released", World::busy, x -> x.of(World.OPEN_CALL, 4), 0);
        Edges.allowed("12: without looks", World::busy, x -> x.of(World.GAS_CALL, 5), 0);
        Edges.Calls sixty = x -> {
            x.ship(0, 0, 0);
            x.call(0, 0);
            World.looks(x, 60);
        };
        Edges.allowed("12: 60 looks", sixty, x -> x.of(0, 5), 60);
        Edges.allowed("12: a 61st doesn't count", Edges.both(sixty, x -> x.look(0, 0, 0)), x -> x.of(0, 5), 60);
    }
}
