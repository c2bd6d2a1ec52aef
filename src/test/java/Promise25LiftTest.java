/** Promise 25, lift: behind 90 days, 90 more for each further ban, and not in a port. */
public final class Promise25LiftTest {
    private Promise25LiftTest() {
    }

    public static void main(String[] args) {
        beyond();
        notBanned();
        inAPort();
        tooEarly();
        furtherBans();
        lastDay();
        Due.close("Promise25LiftTest");
    }

    private static void beyond() {
        Edges.Calls late = Edges.both(World::busy, x -> x.day(1000));
        Edges.refused("25: no ship", late, x -> x.lift(World.SHIPS), Due.BEYOND);
        Edges.beyond("25: ship", late, (x, v) -> x.lift(v), -1, 16, Integer.MIN_VALUE, Integer.MAX_VALUE);
        Edges.allowed("25: the last ship", late, x -> x.lift(World.SHIPS - 1), 1);
    }

    private static void notBanned() {
        Edges.refused("25: never banned", World::busy, x -> x.lift(World.PLAIN), Due.STATE);
        Edges.refused("25: never banned, at sea", x -> x.ship(0, 0, 0), x -> x.lift(0), Due.STATE);
        Edges.Calls lifted = Edges.both(World::busy, x -> {
            x.day(1000);
            x.lift(World.BANNED_FERRY);
        });
        Edges.refused("25: lifted already", lifted, x -> x.lift(World.BANNED_FERRY), Due.STATE);
    }

    private static void inAPort() {
        Edges.Calls banned = x -> {
            World.busy(x);
            x.look(World.GAS_CALL, 0, 1);
            x.look(World.GAS_CALL, 0, 1);
            x.look(World.GAS_CALL, 0, 1);
            x.day(World.DAY + 90);
        };
        Edges.refused("25: in a port, held", banned, x -> x.lift(World.GAS), Due.STATE);
        Edges.Calls released = Edges.both(banned, x -> x.look(World.GAS_CALL, 0, 0));
        Edges.refused("25: in a port, released", released, x -> x.lift(World.GAS), Due.STATE);
        Edges.allowed("25: it left", Edges.both(released, x -> x.leave(World.GAS_CALL)), x -> x.lift(World.GAS), 1);
    }

    private static void tooEarly() {
        Edges.refused("25: too early", World::busy, x -> x.lift(World.BANNED_FERRY), Due.STATE);
        Edges.Calls eve = Edges.both(World::busy, x -> x.day(189));
        Edges.refused("25: behind 89 days", eve, x -> x.lift(World.BANNED_FERRY), Due.STATE);
        Edges.Calls day = Edges.both(World::busy, x -> x.day(190));
        Edges.allowed("25: behind 90 days", day, x -> x.lift(World.BANNED_FERRY), 1);
        Edges.allowed("25: it may call then", Edges.both(day, x -> x.lift(World.BANNED_FERRY)),
            x -> x.call(World.BANNED_FERRY, 4), World.CALLS);
    }

    /** Lifted on its first day, held on that day again, and gone to sea: so many bans. */
    private static Edges.Calls bans(int n) {
        return x -> {
            Due.treaty(x, "g0s;", 0);
            x.ship(0, 0, 0);
            x.call(0, 0);
            Due.look(x, 0, 1, 2);
            int day = 0;
            for (int ban = 1; ban <= n; ban++) {
                x.look(ban - 1, 0, 1);
                x.look(ban - 1, 0, 0);
                x.leave(ban - 1);
                if (ban < n) {
                    day += 90 * ban;
                    x.day(day);
                    x.lift(0);
                    x.call(0, 0);
                }
            }
        };
    }

    private static void furtherBans() {
        // The holds of bans 3 and 5 are so far apart that the months must be the most.
        Edges.Calls longest = x -> x.months(99);
        int since = 0;
        for (int n = 1; n <= 6; n++) {
            int its = since;
            int needed = 90 * n;
            Edges.Calls banned = Edges.both(longest, bans(n));
            Edges.allowed("25: bans of " + n, banned, x -> x.banned(0, 1), n);
            Edges.allowed("25: since when, of " + n, banned, x -> x.banned(0, 2), its);
            Edges.Calls eve = Edges.both(banned, x -> x.day(its + needed - 1));
            Edges.Calls day = Edges.both(banned, x -> x.day(its + needed));
            Edges.refused("25: the eve, of " + n, eve, x -> x.lift(0), Due.STATE);
            Edges.allowed("25: the day, of " + n, day, x -> x.lift(0), 1);
            since += needed;
        }
    }

    private static void lastDay() {
        Edges.Calls onTheLast = x -> {
            Due.treaty(x, "g0s;", 0);
            x.ship(0, 0, 0);
            x.call(0, 0);
            x.day(9910);
            Due.look(x, 0, 1, 3);
            x.look(0, 0, 0);
            x.leave(0);
            x.day(9999);
        };
        Edges.refused("25: 89 days are left", onTheLast, x -> x.lift(0), Due.STATE);
    }
}
