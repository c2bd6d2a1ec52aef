/** Promise 11, leave: a call is over, once, and not while it is held. */
public final class Promise11LeaveTest {
    private Promise11LeaveTest() {
    }

    public static void main(String[] args) {
        beyond();
        over();
        held();
        Due.close("Promise11LeaveTest");
    }

    private static void beyond() {
        Edges.range("11: call", x -> {
            World.ships(x, 2);
            x.call(0, 0);
            x.call(1, 0);
        }, (x, v) -> x.leave(v), 0, 1);
        Edges.refused("11: no call", World::busy, x -> x.leave(World.CALLS), Due.BEYOND);
        Edges.Calls fifty = Edges.both(World::busy, x -> World.calls(x, 50));
        Edges.allowed("11: the last of 50", fifty, x -> x.leave(49), 1);
        Edges.refused("11: no 51st", fifty, x -> x.leave(50), Due.BEYOND);
    }

    private static void over() {
        Edges.refused("11: it was over", World::busy, x -> x.leave(World.CALL_OVER), Due.STATE);
        Edges.Calls left = Edges.both(World::busy, x -> x.leave(World.GAS_CALL));
        Edges.refused("11: it was over on that day", left, x -> x.leave(World.GAS_CALL), Due.STATE);
        Edges.Calls again = Edges.both(left, x -> x.call(World.GAS, 1));
        Edges.refused("11: the ship has another call", again, x -> x.leave(World.GAS_CALL), Due.STATE);
        Edges.allowed("11: that one isn't over", again, x -> x.leave(World.CALLS), 1);
        Edges.allowed("11: over on the day when it began", again, x -> x.leave(World.CALLS), 1);
        Edges.Calls dayZero = x -> {
            x.ship(0, 0, 0);
            x.call(0, 0);
            x.leave(0);
        };
        Edges.refused("11: it was over on day 0", dayZero, x -> x.leave(0), Due.STATE);
    }

    private static void held() {
        Edges.refused("11: held", World::busy, x -> x.leave(World.HELD_CALL), Due.STATE);
        Edges.Calls released = Edges.both(World::busy, x -> x.look(World.HELD_CALL, 0, 0));
        Edges.allowed("11: released", released, x -> x.leave(World.HELD_CALL), 1);
        Edges.Calls heldAgain = Edges.both(released, x -> x.look(World.HELD_CALL, 0, 1));
        Edges.refused("11: held again", heldAgain, x -> x.leave(World.HELD_CALL), Due.STATE);
        Edges.Calls late = Edges.both(World::busy, x -> x.day(9999));
        Edges.refused("11: days don't release", late, x -> x.leave(World.HELD_CALL), Due.STATE);
        Edges.Calls otherLook = Edges.both(World::busy, x -> x.look(World.OPEN_CALL, 2, 0));
        Edges.refused("11: a look at another call doesn't", otherLook, x -> x.leave(World.HELD_CALL), Due.STATE);
    }
}
