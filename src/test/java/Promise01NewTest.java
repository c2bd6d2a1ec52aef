/** Promise 1, a new object: nothing is there yet, and the DAY is 0. */
public final class Promise01NewTest {
    private Promise01NewTest() {
    }

    public static void main(String[] args) {
        noShip();
        noCallAndNoLook();
        nothingToTell();
        dayIsZero();
        objectsShareNothing();
        Due.close("Promise01NewTest");
    }

    private static void refused(String test, Edges.Act act, int finding) {
        Edges.refused("1: " + test, Edges.NEW, act, finding);
    }

    private static void allowed(String test, Edges.Act act, int want) {
        Edges.allowed("1: " + test, Edges.NEW, act, want);
    }

    private static void noShip() {
        refused("as", x -> x.as(0, 0), Due.BEYOND);
        refused("change", x -> x.change(0, 0, 0), Due.BEYOND);
        refused("has", x -> x.has(0, 0, 0), Due.BEYOND);
        refused("call", x -> x.call(0, 0), Due.BEYOND);
        refused("risk", x -> x.risk(0), Due.BEYOND);
        refused("board", x -> x.board(0, 0, 0), Due.BEYOND);
        refused("rest", x -> x.rest(0, 0), Due.BEYOND);
        refused("tired", x -> x.tired(0, 0), Due.BEYOND);
        refused("banned", x -> x.banned(0, 0), Due.BEYOND);
        refused("lift", x -> x.lift(0), Due.BEYOND);
        refused("named", x -> x.named(0, 0), Due.NONE);
        allowed("fleet", x -> x.fleet(0, 0), 0);
        allowed("board", x -> x.board(0, 2424, -1), 0);
        allowed("the first ship", x -> x.ship(0, 0, 0), 0);
    }

    private static void noCallAndNoLook() {
        refused("leave", x -> x.leave(0), Due.BEYOND);
        refused("of", x -> x.of(0, 0), Due.BEYOND);
        refused("look", x -> x.look(0, 0, 0), Due.BEYOND);
        refused("told", x -> x.told(0, 0), Due.BEYOND);
        refused("were", x -> x.were(0, 0), Due.BEYOND);
        refused("draw", x -> x.draw(0, 1), Due.BEYOND);
        refused("habit", x -> x.habit(0), Due.NONE);
        refused("rate", x -> x.rate(), Due.NONE);
    }

    private static void nothingToTell() {
        refused("says", x -> x.says(0, 0), Due.NONE);
        allowed("check", x -> x.check(), 0);
        allowed("the first byte", x -> x.feed(0), 1);
        allowed("the first treaty, of an empty tape", x -> x.treaty(0), 1);
        allowed("the first word", x -> x.one(0, 1), 1);
        allowed("the first number", x -> x.tell(0), 1);
        allowed("months at first", x -> x.months(1), 36);
        for (int k = 1; k <= 5; k++) {
            int its = k;
            allowed("found " + k, x -> x.found(its), 0);
        }
        for (int what = 0; what <= 11; what++) {
            int its = what;
            allowed("count " + what, x -> x.count(its), 0);
        }
        for (int what = 0; what <= 2; what++) {
            int its = what;
            allowed("share of all " + what, x -> x.share(2, 0, its), 0);
        }
    }

    private static void dayIsZero() {
        allowed("the day", x -> x.count(6), 0);
        allowed("day 0 again", x -> x.day(0), 0);
        allowed("built on day 0", x -> x.ship(0, 0, 0), 0);
        refused("built on day 1", x -> x.ship(0, 0, 1), Due.BEYOND);
    }

    private static void objectsShareNothing() {
        Edges.alike("1: a new object beside one in use", Edges.NEW, x -> World.busy(new PortLook()));
    }
}
