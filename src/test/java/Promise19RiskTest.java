/** Promise 19, risk: each of its parts at its edge, the least and the most. */
public final class Promise19RiskTest {
    private Promise19RiskTest() {
    }

    public static void main(String[] args) {
        beyond();
        least();
        fifteenYears();
        yearsSinceALook();
        holdsOfTheFleet();
        daysOfTheFleet();
        fleetOfTheDay();
        darkFlagAndClass();
        most();
        Due.close("Promise19RiskTest");
    }

    private static void beyond() {
        Edges.range("19: ship", World::busy, (x, v) -> x.risk(v), 0, World.SHIPS - 1);
        Edges.range("19: ship of 16", x -> World.ships(x, 16), (x, v) -> x.risk(v), 0, 15);
    }

    private static void risk(String test, Edges.Calls ahead, int ship, int want) {
        Edges.allowed("19: " + test, ahead, x -> x.risk(ship), want);
    }

    private static Edges.Calls onDay(Edges.Calls ahead, int day) {
        return Edges.both(ahead, x -> x.day(day));
    }

    private static void least() {
        int[] want = {1, 2, 2, 1};
        for (int kind = 0; kind <= 3; kind++) {
            int of = 10 * kind;
            risk("a new one of kind " + kind, x -> x.ship(of, 0, 0), 0, want[kind]);
        }
    }

    /** Built on a day, and looked at every year, so that nothing but its age is counted. */
    private static Edges.Calls lookedAtOn(int built, int day) {
        return x -> {
            x.day(built);
            x.ship(0, 0, built);
            x.ship(20, 0, built);
            x.call(0, 0);
            x.call(1, 0);
            x.day(day);
            x.look(0, 0, 0);
            x.look(1, 0, 0);
        };
    }

    private static void fifteenYears() {
        risk("a day ahead of 15 years", lookedAtOn(0, 5474), 0, 1);
        risk("15 years", lookedAtOn(0, 5475), 0, 3);
        risk("a day ahead of 15 years, gas", lookedAtOn(0, 5474), 1, 2);
        risk("15 years, gas", lookedAtOn(0, 5475), 1, 6);
        risk("a day ahead of 15 years, built later", lookedAtOn(300, 5774), 0, 1);
        risk("15 years, built later", lookedAtOn(300, 5775), 0, 3);
        risk("the last day", lookedAtOn(9999 - 5475, 9999), 0, 3);
        risk("the last day, a day ahead of 15 years", lookedAtOn(9999 - 5474, 9999), 0, 1);
    }

    private static void yearsSinceALook() {
        Edges.Calls looked = lookedAtOn(0, 100);
        Edges.Calls built = x -> {
            x.day(100);
            x.ship(0, 0, 100);
        };
        for (int years = 1; years <= 6; years++) {
            int behind = 1 + Math.min(years, 5);
            risk("the eve of year " + years + " since it was built", onDay(built, 99 + 365 * years), 0, years);
            risk("year " + years + " since it was built", onDay(built, 100 + 365 * years), 0, behind);
            risk("the eve of year " + years + " since a look", onDay(looked, 99 + 365 * years), 0, years);
            risk("year " + years + " since a look", onDay(looked, 100 + 365 * years), 0, behind);
        }
        Edges.Calls twice = Edges.both(onDay(looked, 1000), x -> x.look(0, 1, 0));
        risk("since its latest look", onDay(twice, 1364), 0, 1);
        risk("a year since its latest look", onDay(twice, 1365), 0, 2);
        Edges.Calls dayZero = x -> {
            x.ship(0, 0, 0);
            x.call(0, 0);
            x.look(0, 0, 0);
        };
        risk("a look on day 0", onDay(dayZero, 365), 0, 2);
    }

    /** Ship 0 is at sea; ship 1 of its owner and ship 2 of another one are held so often. */
    private static Edges.Calls fleet(int holds, int ofOthers) {
        return x -> {
            Due.treaty(x, "g0s;", 0);
            x.ship(0, 0, 0);
            x.ship(0, 0, 0);
            x.ship(0, 10, 0);
            x.call(1, 0);
            x.call(2, 0);
            Due.look(x, 0, 1, holds);
            Due.look(x, 1, 1, ofOthers);
        };
    }

    private static void holdsOfTheFleet() {
        for (int holds = 0; holds <= 6; holds++) {
            risk(holds + " holds of the fleet", fleet(holds, 0), 0, 1 + Math.min(holds, 4));
            risk(holds + " holds of others", fleet(0, holds), 0, 1);
            risk(holds + " holds of its own", fleet(holds, 0), 1, 1);
            risk(holds + " holds of one's", Edges.both(fleet(holds, 0), x -> x.one(1, 0)), 2, 1 + Math.min(holds, 4));
        }
        risk("3 and 1 of owners who are one", Edges.both(fleet(3, 1), x -> x.one(0, 1)), 0, 5);
        risk("3 and 2 of owners who are one", Edges.both(fleet(3, 2), x -> x.one(0, 1)), 0, 5);
        risk("looks that don't hold", Edges.both(fleet(1, 0), x -> Due.look(x, 0, 2, 3)), 0, 2);
    }

    private static void daysOfTheFleet() {
        Edges.Calls later = x -> {
            Due.treaty(x, "g0s;", 0);
            x.day(10);
            x.ship(0, 0, 10);
            x.ship(0, 0, 10);
            x.call(0, 0);
            x.call(1, 0);
            x.look(1, 0, 1);
            x.day(300);
            x.look(0, 0, 0);
        };
        risk("the first of 365 days", onDay(later, 10 + 364), 0, 2);
        risk("a day ahead of them", onDay(later, 10 + 365), 0, 1);
    }

    private static void fleetOfTheDay() {
        Edges.Calls sold = Edges.both(onDay(fleet(2, 0), 1), x -> x.change(1, 2, 1));
        risk("the held one was sold on this day", sold, 0, 1);
        risk("to this one", sold, 2, 3);
        Edges.Calls moved = Edges.both(onDay(fleet(2, 0), 1), x -> x.change(0, 2, 9));
        risk("it was sold itself on this day", moved, 0, 1);
    }

    /** Ship 0 is looked at and held, ship 1 isn't held; ship 2 has the flag of 0, ship 3 its class. */
    private static Edges.Calls dark(int clean) {
        return x -> {
            Due.treaty(x, "g0s;", 0);
            x.ship(0, 0, 0);
            x.ship(1, 11, 0);
            x.ship(2, 20, 0);
            x.ship(0, 33, 0);
            x.call(0, 0);
            x.call(1, 0);
            Due.look(x, 0, 1, 3);
            Due.look(x, 1, 0, clean);
        };
    }

    private static void darkFlagAndClass() {
        int[] notDark = {1, 1, 1, 1};
        int[] want = {6, 1, 4, 3};
        for (int ship = 0; ship <= 3; ship++) {
            risk("the square is just as much, ship " + ship, dark(6), ship, notDark[ship]);
            risk("flag and class are dark, ship " + ship, dark(7), ship, want[ship]);
        }
        Edges.Calls flagged = Edges.both(onDay(dark(7), 1), x -> {
            x.change(0, 1, 5);
            x.change(3, 1, 0);
        });
        risk("its flag isn't the dark one on this day", flagged, 0, 3);
        risk("its flag is the dark one on this day", flagged, 3, 6);
    }

    /** A tanker of 15 years, never looked at, of a dark flag and class, with so many holds in its fleet. */
    private static Edges.Calls worst(int kind) {
        return x -> {
            Due.treaty(x, "g0s;", 0);
            x.ship(10 * kind, 0, 0);
            x.ship(0, 0, 0);
            x.ship(1, 51, 0);
            x.day(5475);
            x.call(1, 0);
            x.call(2, 0);
            Due.look(x, 0, 1, 4);
            Due.look(x, 1, 0, 7);
        };
    }

    private static void most() {
        int[] want = {17, 34, 34, 17};
        for (int kind = 0; kind <= 3; kind++) {
            risk("the most of kind " + kind, worst(kind), 0, want[kind]);
        }
    }
}
