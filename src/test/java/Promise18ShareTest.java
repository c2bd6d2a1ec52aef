/** Promise 18, share: flags, classes and all, the last 1095 days, and what is dark. */
public final class Promise18ShareTest {
    private Promise18ShareTest() {
    }

    public static void main(String[] args) {
        beyond();
        empty();
        lastDays();
        flagOfTheDay();
        darkIsAbove();
        darkBySquare();
        noHolds();
        sixty();
        Due.close("Promise18ShareTest");
    }

    /** Ship 0 of flag 0 and class 0, ship 1 of flag 1 and class 1, both in port 0; fault 0 is grave. */
    private static void two(PortLook x) {
        Due.treaty(x, "g0s;", 0);
        x.ship(0, 0, 0);
        x.ship(1, 11, 0);
        x.call(0, 0);
        x.call(1, 0);
    }

    /** So many looks at each of the two ships that hold, and that don't. */
    private static Edges.Calls looks(int holds, int clean, int otherHolds, int otherClean) {
        return x -> {
            two(x);
            Due.look(x, 0, 1, holds);
            Due.look(x, 0, 0, clean);
            Due.look(x, 1, 1, otherHolds);
            Due.look(x, 1, 0, otherClean);
        };
    }

    private static void beyond() {
        Edges.range("18: of", World::busy, (x, v) -> x.share(v, 0, 0), 0, 2);
        Edges.range("18: flag", World::busy, (x, v) -> x.share(0, v, 0), 0, 5);
        Edges.range("18: class", World::busy, (x, v) -> x.share(1, v, 0), 0, 3);
        Edges.range("18: all", World::busy, (x, v) -> x.share(2, v, 0), 0, 0);
        for (int of = 0; of <= 2; of++) {
            int its = of;
            Edges.range("18: what of " + of, World::busy, (x, v) -> x.share(its, 0, v), 0, 2);
        }
    }

    private static void empty() {
        for (int what = 0; what <= 2; what++) {
            int its = what;
            Edges.allowed("18: a flag without looks", looks(1, 0, 0, 0), x -> x.share(0, 5, its), 0);
            Edges.allowed("18: a class without looks", looks(1, 0, 0, 0), x -> x.share(1, 3, its), 0);
            Edges.allowed("18: no looks at all", Promise18ShareTest::two, x -> x.share(2, 0, its), 0);
        }
    }

    private static void lastDays() {
        Edges.Calls looked = x -> {
            two(x);
            x.day(7);
            x.look(0, 0, 1);
        };
        Edges.Calls last = Edges.both(looked, x -> x.day(7 + 1094));
        Edges.Calls gone = Edges.both(looked, x -> x.day(7 + 1095));
        for (int what = 0; what <= 1; what++) {
            for (int of = 0; of <= 2; of++) {
                int its = of;
                int w = what;
                Edges.allowed("18: the first of 1095 days, of " + of, last, x -> x.share(its, 0, w), 1);
                Edges.allowed("18: a day ahead of them, of " + of, gone, x -> x.share(its, 0, w), 0);
            }
        }
        Edges.allowed("18: the day itself", looked, x -> x.share(0, 0, 0), 1);
    }

    private static void flagOfTheDay() {
        Edges.Calls looked = x -> {
            two(x);
            x.day(10);
            x.look(0, 0, 1);
        };
        Edges.Calls nextDay = Edges.both(looked, x -> {
            x.day(11);
            x.change(0, 1, 5);
        });
        Edges.allowed("18: changed on the day behind the look", nextDay, x -> x.share(0, 0, 0), 1);
        Edges.allowed("18: the new flag has none", nextDay, x -> x.share(0, 5, 0), 0);
        Edges.Calls sameDay = Edges.both(looked, x -> x.change(0, 1, 5));
        Edges.allowed("18: changed on the day of the look", sameDay, x -> x.share(0, 5, 1), 1);
        Edges.allowed("18: the old flag has none", sameDay, x -> x.share(0, 0, 1), 0);
    }

    private static void dark(String test, Edges.Calls ahead, int want) {
        Edges.allowed("18: flag, " + test, ahead, x -> x.share(0, 0, 2), want);
        Edges.allowed("18: class, " + test, ahead, x -> x.share(1, 0, 2), want);
        Edges.allowed("18: all, " + test, ahead, x -> x.share(2, 0, 2), 0);
    }

    private static void darkIsAbove() {
        dark("just its part", looks(2, 10, 2, 10), 0);
        // 0 times 34 is far below 17 times 17, though the square of that is far above 4 times 17 times 34 times 17.
        dark("far below its part", looks(0, 17, 17, 0), 0);
        dark("far above its part", looks(17, 0, 0, 17), 1);
        Edges.allowed("18: the other flag is far below", looks(17, 0, 0, 17), x -> x.share(0, 1, 2), 0);
    }

    private static void darkBySquare() {
        // 3 times 9 less 3 times 3 is 18, its square 324; 4 times 3 times 9 times 3 is 324.
        dark("the square is just as much", looks(3, 0, 0, 6), 0);
        // 3 times 10 less 3 times 3 is 21, its square 441; 4 times 3 times 10 times 3 is 360.
        dark("the square is above", looks(3, 0, 0, 7), 1);
        // 4 times 10 less 4 times 4 is 24, its square 576; 4 times 4 times 10 times 4 is 640.
        dark("the square is below", looks(4, 0, 0, 6), 0);
        // 1 times 5 less 1 is 4, its square 16; 4 times 1 times 5 times 1 is 20.
        dark("one hold of 5", looks(1, 0, 0, 4), 0);
        // 1 times 6 less 1 is 5, its square 25; 4 times 6 is 24.
        dark("one hold of 6", looks(1, 0, 0, 5), 1);
    }

    private static void noHolds() {
        dark("no holds at all", looks(0, 5, 0, 5), 0);
        dark("no looks at all", Promise18ShareTest::two, 0);
        Edges.Calls goneBy = Edges.both(looks(3, 0, 0, 7), x -> x.day(1095));
        dark("holds of long ago", goneBy, 0);
        Edges.Calls last = Edges.both(looks(3, 0, 0, 7), x -> x.day(1094));
        dark("holds of the first of the days", last, 1);
    }

    private static void sixty() {
        Edges.Calls half = looks(30, 0, 0, 30);
        Edges.allowed("18: 60 looks", half, x -> x.share(2, 0, 0), 60);
        Edges.allowed("18: 30 holds", half, x -> x.share(2, 0, 1), 30);
        dark("30 of 60", half, 1);
        Edges.allowed("18: all 60 hold", looks(60, 0, 0, 0), x -> x.share(0, 0, 1), 60);
        dark("60 of 60", looks(60, 0, 0, 0), 0);
    }
}
