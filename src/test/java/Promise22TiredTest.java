/** Promise 22, tired: fewer than 10 of 24 hours, fewer than 77 of 168. */
public final class Promise22TiredTest {
    private static final int ALL_DAY = 16777215;
    private static final int NINE = 0x1FF;
    private static final int TEN = 0x3FF;
    private static final int ELEVEN = 0x7FF;

    private Promise22TiredTest() {
    }

    public static void main(String[] args) {
        beyond();
        noneAtFirst();
        firstHourThatCanBe();
        lastHourThatCanBe();
        windows();
        week();
        Due.close("Promise22TiredTest");
    }

    private static Edges.Calls told(int... days) {
        return x -> {
            x.ship(0, 0, 0);
            for (int bits : days) {
                x.rest(0, bits);
            }
        };
    }

    private static void beyond() {
        Edges.range("22: ship", World::busy, (x, v) -> x.tired(v, 0), 0, World.SHIPS - 1);
        Edges.range("22: what", World::busy, (x, v) -> x.tired(0, v), 0, 2);
        Edges.Calls rested = told(TEN, TEN, TEN, TEN, TEN, TEN, TEN);
        Edges.refused("22: no ship is asked ahead of NONE", rested, x -> x.tired(1, 0), Due.BEYOND);
        Edges.refused("22: no what is asked ahead of NONE", rested, x -> x.tired(0, 3), Due.BEYOND);
        Edges.refused("22: no hour is wrong", rested, x -> x.tired(0, 0), Due.NONE);
    }

    private static void noneAtFirst() {
        Edges.allowed("22: the first wrong hour at first", told(), x -> x.tired(0, 0), 23);
        Edges.allowed("22: the week at first", told(), x -> x.tired(0, 1), 1);
        Edges.allowed("22: no rest at first", told(), x -> x.tired(0, 2), 0);
        Edges.Calls six = told(ALL_DAY, ALL_DAY, ALL_DAY, ALL_DAY, ALL_DAY, ALL_DAY);
        Edges.allowed("22: six days told, the one ahead isn't", six, x -> x.tired(0, 0), 23);
        Edges.refused("22: the seventh day told", Edges.both(six, x -> x.rest(0, ALL_DAY)), x -> x.tired(0, 0), Due.NONE);
    }

    private static void firstHourThatCanBe() {
        Edges.allowed("22: nine of the first 24", told(NINE, ALL_DAY, ALL_DAY, ALL_DAY, ALL_DAY, ALL_DAY, ALL_DAY),
            x -> x.tired(0, 0), 23);
        Edges.refused("22: ten of the first 24", told(TEN, ALL_DAY, ALL_DAY, ALL_DAY, ALL_DAY, ALL_DAY, ALL_DAY),
            x -> x.tired(0, 0), Due.NONE);
        // The first hour is the only one that leaves between hours 23 and 24.
        Edges.allowed("22: the 25th hour", told(TEN, 0xFFFFFE, ALL_DAY, ALL_DAY, ALL_DAY, ALL_DAY, ALL_DAY),
            x -> x.tired(0, 0), 24);
    }

    private static void lastHourThatCanBe() {
        Edges.Calls six = told(ALL_DAY, ALL_DAY, ALL_DAY, ALL_DAY, ALL_DAY, ALL_DAY);
        Edges.allowed("22: nine of the last 24", Edges.both(six, x -> x.rest(0, NINE)), x -> x.tired(0, 0), 167);
        Edges.refused("22: ten of the last 24", Edges.both(six, x -> x.rest(0, TEN)), x -> x.tired(0, 0), Due.NONE);
        Edges.refused("22: nine, and the last hour", Edges.both(six, x -> x.rest(0, 0x8001FF)), x -> x.tired(0, 0),
            Due.NONE);
        Edges.allowed("22: eight of the last 24", Edges.both(six, x -> x.rest(0, 0xFF)), x -> x.tired(0, 0), 166);
        Edges.allowed("22: none of the last 24", Edges.both(six, x -> x.rest(0, 0)), x -> x.tired(0, 0), 158);
    }

    private static void windows() {
        int lastTen = TEN << 14;
        Edges.refused("22: the last ten of each day", told(lastTen, lastTen, lastTen, lastTen, lastTen, lastTen, lastTen),
            x -> x.tired(0, 0), Due.NONE);
        Edges.allowed("22: the first ten, then the last ten", told(TEN, TEN, TEN, TEN, TEN, TEN, lastTen),
            x -> x.tired(0, 0), 144);
        Edges.refused("22: the last ten, then the first ten", told(lastTen, lastTen, lastTen, TEN, TEN, TEN, TEN),
            x -> x.tired(0, 0), Due.NONE);
        Edges.allowed("22: the least of two wrong hours", told(TEN, TEN, NINE, TEN, TEN, NINE, TEN),
            x -> x.tired(0, 0), 71 - 14);
    }

    private static void week() {
        Edges.Calls seventySix = told(ELEVEN, ELEVEN, ELEVEN, ELEVEN, ELEVEN, ELEVEN, TEN);
        Edges.Calls seventySeven = told(ELEVEN, ELEVEN, ELEVEN, ELEVEN, ELEVEN, ELEVEN, ELEVEN);
        Edges.allowed("22: 76 hours", seventySix, x -> x.tired(0, 2), 76);
        Edges.allowed("22: the week of 76", seventySix, x -> x.tired(0, 1), 1);
        Edges.allowed("22: 77 hours", seventySeven, x -> x.tired(0, 2), 77);
        Edges.allowed("22: the week of 77", seventySeven, x -> x.tired(0, 1), 0);
        Edges.allowed("22: an eighth day of ten", Edges.both(seventySeven, x -> x.rest(0, TEN)), x -> x.tired(0, 1), 1);
        Edges.Calls most = told(ALL_DAY, ALL_DAY, ALL_DAY, ALL_DAY, ALL_DAY, ALL_DAY, ALL_DAY, ALL_DAY);
        Edges.allowed("22: all 168", most, x -> x.tired(0, 2), 168);
    }
}
