/** Promise 24, banned: the third hold, its months, those of a dark flag, and what stays. */
public final class Promise24BannedTest {
    private Promise24BannedTest() {
    }

    public static void main(String[] args) {
        beyond();
        none();
        third();
        months();
        darkMonths();
        darkWithThisLook();
        darkAsOnThatDay();
        toldWhenMade();
        staysSo();
        Due.close("Promise24BannedTest");
    }

    private static void beyond() {
        Edges.range("24: ship", World::busy, (x, v) -> x.banned(v, 0), 0, World.SHIPS - 1);
        Edges.range("24: what", World::busy, (x, v) -> x.banned(World.BANNED_FERRY, v), 0, 2);
        Edges.allowed("24: one that isn't", World::busy, x -> x.banned(World.PLAIN, 0), 0);
        Edges.allowed("24: one that never was", World::busy, x -> x.banned(World.PLAIN, 1), 0);
        Edges.refused("24: no what is asked ahead of NONE", World::busy, x -> x.banned(World.PLAIN, 3), Due.BEYOND);
        Edges.refused("24: no ship is asked ahead of NONE", World::busy, x -> x.banned(World.SHIPS, 2), Due.BEYOND);
    }

    private static void none() {
        Edges.refused("24: never banned", World::busy, x -> x.banned(World.PLAIN, 2), Due.NONE);
        Edges.allowed("24: since when", World::busy, x -> x.banned(World.BANNED_FERRY, 2), 100);
        Edges.Calls lifted = Edges.both(World::busy, x -> {
            x.day(190);
            x.lift(World.BANNED_FERRY);
        });
        Edges.refused("24: lifted", lifted, x -> x.banned(World.BANNED_FERRY, 2), Due.NONE);
        Edges.allowed("24: lifted, it isn't", lifted, x -> x.banned(World.BANNED_FERRY, 0), 0);
        Edges.allowed("24: lifted, it was once", lifted, x -> x.banned(World.BANNED_FERRY, 1), 1);
    }

    private static Edges.Calls holds(int n) {
        return x -> Due.look(x, 0, 1, n);
    }

    /** A call of one ship in port 0, where fault 0 is grave. */
    private static void called(PortLook x) {
        Due.treaty(x, "g0s;", 0);
        x.ship(0, 0, 0);
        x.call(0, 0);
    }

    private static void third() {
        int[] isBanned = {0, 0, 0, 1, 1};
        for (int n = 0; n < isBanned.length; n++) {
            Edges.Calls held = Edges.both(Promise24BannedTest::called, holds(n));
            Edges.allowed("24: " + n + " holds", held, x -> x.banned(0, 0), isBanned[n]);
            Edges.allowed("24: how often, " + n + " holds", held, x -> x.banned(0, 1), isBanned[n]);
        }
        Edges.allowed("24: since day 0", Edges.both(Promise24BannedTest::called, holds(3)), x -> x.banned(0, 2), 0);
        Edges.Calls threePorts = x -> {
            called(x);
            for (int call = 0; call < 3; call++) {
                x.look(call, 0, 1);
                x.look(call, 0, 0);
                x.leave(call);
                x.call(0, call + 1);
            }
        };
        Edges.allowed("24: in whatever port", threePorts, x -> x.banned(0, 0), 1);
        Edges.Calls twoShips = x -> {
            called(x);
            x.ship(0, 0, 0);
            x.call(1, 0);
            Due.look(x, 0, 1, 2);
            Due.look(x, 1, 1, 2);
        };
        Edges.allowed("24: two holds each of two ships", twoShips, x -> x.count(10), 0);
        Edges.Calls clean = Edges.both(Promise24BannedTest::called, x -> {
            Due.look(x, 0, 1, 2);
            Due.look(x, 0, 2, 3);
        });
        Edges.allowed("24: looks that don't hold", clean, x -> x.banned(0, 0), 0);
    }

    /** Two holds on day 1, a third one so many days later. */
    private static Edges.Calls apart(int months, int days) {
        return x -> {
            called(x);
            if (months != 36) {
                x.months(months);
            }
            x.day(1);
            Due.look(x, 0, 1, 2);
            x.day(1 + days);
            Due.look(x, 0, 1, 1);
        };
    }

    private static void months() {
        int[] months = {1, 2, 36, 99};
        for (int m : months) {
            Edges.allowed("24: the last day of " + m + " months", apart(m, 30 * m - 1), x -> x.banned(0, 0), 1);
            Edges.allowed("24: a day behind " + m + " months", apart(m, 30 * m), x -> x.banned(0, 0), 0);
        }
        Edges.allowed("24: since the day of the third", apart(99, 2969), x -> x.banned(0, 2), 2970);
        Edges.Calls fourth = Edges.both(apart(1, 30), holds(2));
        Edges.allowed("24: three of them in the last months", fourth, x -> x.banned(0, 0), 1);
        Edges.allowed("24: two of them in the last months", Edges.both(apart(1, 30), holds(1)), x -> x.banned(0, 0), 0);
    }

    /** As apart(); on the day of the third hold so many looks at a ship of another flag don't hold. */
    private static Edges.Calls apartBeside(int months, int days, int clean) {
        return x -> {
            called(x);
            x.ship(0, 1, 0);
            x.call(1, 0);
            x.months(months);
            Due.look(x, 0, 1, 2);
            x.day(days);
            Due.look(x, 1, 0, clean);
            Due.look(x, 0, 1, 1);
        };
    }

    private static void darkMonths() {
        int[] months = {2, 3, 4, 5, 36, 40};
        int[] twoThirds = {1, 2, 2, 3, 24, 26};
        for (int i = 0; i < months.length; i++) {
            int m = months[i];
            int days = 30 * twoThirds[i];
            Edges.allowed("24: dark, two thirds of " + m, apartBeside(m, days - 1, 7), x -> x.banned(0, 0), 1);
            Edges.allowed("24: dark, a day behind them", apartBeside(m, days, 7), x -> x.banned(0, 0), 0);
            Edges.allowed("24: not dark, a day behind them", apartBeside(m, days, 6), x -> x.banned(0, 0), 1);
        }
        Edges.allowed("24: dark, two thirds of 1 are none", apartBeside(1, 0, 7), x -> x.banned(0, 0), 0);
        Edges.allowed("24: not dark, 1 month", apartBeside(1, 0, 6), x -> x.banned(0, 0), 1);
    }

    private static void darkWithThisLook() {
        // Ahead of the third hold the flag is dark: 2 times 8 less 2 times 2, squared, is above 4 times 2 times 8 times 2.
        PortLook x = new PortLook();
        called(x);
        x.ship(0, 1, 0);
        x.call(1, 0);
        x.months(3);
        Due.look(x, 0, 1, 2);
        x.day(60);
        Due.look(x, 1, 0, 6);
        Due.due("24: the flag is dark without this look", x.share(0, 0, 2), 1);
        x.look(0, 0, 1);
        Due.due("24: it isn't with it", x.share(0, 0, 2), 0);
        Due.due("24: so all three months count", x.banned(0, 0), 1);
        // 2 times 22 less 6 times 2, squared, is 1024, 4 times 6 times 22 times 2 is 1056; with one more hold
        // 3 times 23 less 7 times 3, squared, is 2304, 4 times 7 times 23 times 3 is 1932.
        PortLook y = new PortLook();
        called(y);
        y.ship(0, 1, 0);
        y.call(1, 0);
        y.months(3);
        Due.look(y, 0, 1, 2);
        Due.look(y, 0, 0, 4);
        y.day(60);
        Due.look(y, 1, 0, 16);
        Due.due("24: the flag isn't dark without this look", y.share(0, 0, 2), 0);
        y.look(0, 0, 1);
        Due.due("24: it is with it", y.share(0, 0, 2), 1);
        Due.due("24: so two months count", y.banned(0, 0), 0);
    }

    private static void darkAsOnThatDay() {
        Edges.Calls sold = x -> {
            called(x);
            x.ship(0, 1, 0);
            x.call(1, 0);
            x.months(3);
            Due.look(x, 0, 1, 2);
            x.day(60);
            Due.look(x, 1, 0, 20);
        };
        Edges.Calls stays = Edges.both(sold, holds(1));
        Edges.allowed("24: its flag is dark", stays, x -> x.banned(0, 0), 0);
        Edges.Calls changed = Edges.both(sold, x -> {
            x.change(0, 1, 1);
            x.look(0, 0, 1);
        });
        Edges.allowed("24: its flag of that day isn't", changed, x -> x.banned(0, 0), 1);
    }

    private static void toldWhenMade() {
        Edges.Calls tooFar = Edges.both(apart(1, 30), x -> x.months(99));
        Edges.allowed("24: more months later don't ban", tooFar, x -> x.banned(0, 0), 0);
        Edges.allowed("24: but by the next hold", Edges.both(tooFar, holds(1)), x -> x.banned(0, 0), 1);
        Edges.Calls fewer = Edges.both(apart(2, 59), x -> x.months(1));
        Edges.allowed("24: fewer months later don't free", fewer, x -> x.banned(0, 0), 1);
    }

    private static void staysSo() {
        Edges.Calls fourth = Edges.both(apart(99, 10), x -> {
            x.day(20);
            x.look(0, 0, 1);
        });
        Edges.allowed("24: a fourth hold bans no more", fourth, x -> x.banned(0, 1), 1);
        Edges.allowed("24: nor from another day", fourth, x -> x.banned(0, 2), 11);
        Edges.Calls late = Edges.both(apart(99, 10), x -> x.day(9999));
        Edges.allowed("24: days don't free", late, x -> x.banned(0, 0), 1);
        Edges.Calls released = Edges.both(apart(99, 10), x -> x.look(0, 0, 0));
        Edges.allowed("24: a release doesn't free", released, x -> x.banned(0, 0), 1);
    }
}
