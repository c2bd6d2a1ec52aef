/** Promises 18 to 20: shares, risk, boarding. */
public final class SharesTest {
    private SharesTest() {
    }

    public static void main(String[] args) {
        shareCounts();
        shareDays();
        shareFlags();
        dark();
        shareBeyond();
        riskOfAge();
        riskOfYears();
        riskOfFleet();
        riskOfDark();
        board();
        boardLeast();
        boardBeyond();
        Due.close("SharesTest");
    }

    /** Two ships in port 0, of unlike flags, classes and owners; fault 0 is grave. */
    private static PortLook two() {
        PortLook x = Due.withGraveFaultZero();
        x.ship(1, 11, 0);
        x.call(1, 0);
        return x;
    }

    private static void shareCounts() {
        PortLook x = two();
        Due.look(x, 0, 1, 2);
        Due.look(x, 0, 0, 1);
        Due.look(x, 1, 1, 1);
        Due.due("18: looks of a flag", x.share(0, 0, 0), 3);
        Due.due("18: holds of a flag", x.share(0, 0, 1), 2);
        Due.due("18: looks of the other", x.share(0, 1, 0), 1);
        Due.due("18: looks of a class", x.share(1, 0, 0), 3);
        Due.due("18: holds of a class", x.share(1, 1, 1), 1);
        Due.due("18: of one without any", x.share(1, 3, 0), 0);
        Due.due("18: looks of all", x.share(2, 0, 0), 4);
        Due.due("18: holds of all", x.share(2, 0, 1), 3);
        Due.due("18: all is not dark", x.share(2, 0, 2), 0);
    }

    private static void shareDays() {
        PortLook x = two();
        x.day(5);
        Due.look(x, 0, 1, 1);
        x.day(5 + 1094);
        Due.due("18: the first of 1095 days", x.share(0, 0, 0), 1);
        Due.due("18: and its hold", x.share(2, 0, 1), 1);
        x.day(5 + 1095);
        Due.due("18: a day too far back", x.share(0, 0, 0), 0);
        Due.due("18: and its hold", x.share(2, 0, 1), 0);
    }

    private static void shareFlags() {
        PortLook x = two();
        x.day(10);
        Due.look(x, 0, 1, 1);
        x.change(0, 1, 4);
        Due.due("18: told on the day of the look", x.share(0, 4, 0), 1);
        Due.due("18: no longer of the old one", x.share(0, 0, 0), 0);
        x.day(11);
        x.change(0, 1, 3);
        Due.due("18: told behind it", x.share(0, 4, 0), 1);
        Due.due("18: the new one has none", x.share(0, 3, 0), 0);
        Due.look(x, 0, 0, 1);
        Due.due("18: the new one has one", x.share(0, 3, 0), 1);
    }

    private static void dark() {
        PortLook x = two();
        Due.due("18: without looks", x.share(0, 0, 2), 0);
        Due.look(x, 0, 1, 3);
        Due.look(x, 1, 0, 6);
        Due.due("18: the square is just as much", x.share(0, 0, 2), 0);
        Due.look(x, 1, 0, 1);
        Due.due("18: a flag is dark", x.share(0, 0, 2), 1);
        Due.due("18: a class is dark", x.share(1, 0, 2), 1);
        Due.due("18: the square of less isn't", x.share(0, 1, 2), 0);
        Due.look(x, 1, 1, 7);
        Due.due("18: no longer beyond chance", x.share(0, 0, 2), 0);
        PortLook y = two();
        Due.look(y, 0, 0, 5);
        Due.due("18: no holds at all", y.share(0, 0, 2), 0);
    }

    private static void shareBeyond() {
        PortLook x = two();
        int[][] beyond = {{-1, 0, 0}, {3, 0, 0}, {0, 6, 0}, {0, -1, 0}, {1, 4, 0}, {1, -1, 0},
            {2, 1, 0}, {2, -1, 0}, {0, 0, 3}, {0, 0, -1}};
        for (int[] b : beyond) {
            Due.due("18: share " + b[0] + " " + b[1] + " " + b[2], x.share(b[0], b[1], b[2]), Due.BEYOND);
        }
        Due.due("18: the last flag", x.share(0, 5, 0), 0);
        Due.due("18: the last class", x.share(1, 3, 2), 0);
    }

    private static void riskOfAge() {
        PortLook x = new PortLook();
        Due.due("19: no ship", x.risk(0), Due.BEYOND);
        x.day(100);
        for (int kind = 0; kind < 4; kind++) {
            x.ship(10 * kind, 0, 100);
            x.call(kind, 0);
            Due.due("19: new, kind " + kind, x.risk(kind), kind == 1 || kind == 2 ? 2 : 1);
        }
        Due.due("19: no ship", x.risk(4), Due.BEYOND);
        Due.due("19: no ship", x.risk(-1), Due.BEYOND);
        x.day(100 + 5474);
        x.look(0, 0, 0);
        Due.due("19: a day less than 15 years", x.risk(0), 1);
        x.day(100 + 5475);
        Due.due("19: 15 years", x.risk(0), 3);
        Due.due("19: 15 years without a look", x.risk(3), 8);
        Due.due("19: twice of a tanker", x.risk(1), 16);
        Due.due("19: twice of a gas one", x.risk(2), 16);
    }

    private static void riskOfYears() {
        PortLook x = two();
        x.day(364);
        Due.due("19: not a year", x.risk(0), 1);
        x.day(365);
        Due.due("19: a year since it was built", x.risk(0), 2);
        x.look(0, 0, 0);
        Due.due("19: looked at", x.risk(0), 1);
        x.day(365 + 5 * 365 - 1);
        Due.due("19: four years since its look", x.risk(0), 5);
        Due.due("19: five years since it was built", x.risk(1), 6);
        x.day(365 + 6 * 365);
        Due.due("19: five at most", x.risk(0), 6);
    }

    private static void riskOfFleet() {
        PortLook x = two();
        x.ship(2, 2, 0);
        x.day(50);
        Due.look(x, 0, 1, 2);
        Due.look(x, 0, 0, 1);
        Due.due("19: not for its own holds", x.risk(0), 1);
        Due.due("19: two holds of its owner's other ship", x.risk(2), 3);
        Due.due("19: another owner's", x.risk(1), 1);
        x.one(1, 0);
        Due.due("19: owners who are one", x.risk(1), 3);
        x.change(0, 2, 7);
        Due.due("19: the other ship has left the fleet", x.risk(1), 1);
        x.change(0, 2, 0);
        x.day(50 + 364);
        Due.due("19: of the last 365 days, and a year", x.risk(2), 4);
        x.day(50 + 365);
        Due.due("19: no longer", x.risk(2), 2);
        Due.look(x, 0, 1, 4);
        Due.due("19: four, and a year", x.risk(2), 6);
        Due.look(x, 0, 1, 1);
        Due.due("19: four at most", x.risk(2), 6);
    }

    private static void riskOfDark() {
        PortLook x = two();
        x.change(0, 2, 9);
        Due.look(x, 0, 1, 3);
        Due.look(x, 1, 0, 7);
        Due.due("19: flag and class are dark", x.risk(0), 6);
        x.ship(12, 30, 0);
        Due.due("19: a flag's, twice of a tanker", x.risk(2), 8);
        x.ship(0, 45, 0);
        Due.due("19: a class's", x.risk(3), 3);
        x.day(1);
        x.change(0, 1, 5);
        Due.due("19: its flag as on the day", x.risk(0), 3);
        Due.due("19: the old flag stays dark", x.risk(2), 8);
    }

    private static void board() {
        PortLook x = new PortLook();
        for (int kind = 0; kind < 4; kind++) {
            x.ship(10 * kind, 10 * kind, 0);
            x.call(kind, 1);
        }
        // Hours 3, 5, 7, 4; risks 1, 2, 2, 1.
        expect(x, 1, 0, 0, new int[] {0, 0, 0, 0});
        expect(x, 1, 202, 0, new int[] {0, 0, 0, 0});
        expect(x, 1, 300, 1, new int[] {1, 0, 0, 0});
        expect(x, 1, 3, 1, new int[] {2, 0, 0, 0});
        expect(x, 1, 404, 2, new int[] {1, 0, 0, 2});
        expect(x, 1, 800, 3, new int[] {1, 1, 0, 0});
        expect(x, 1, 507, 4, new int[] {2, 1, 0, 2});
        expect(x, 1, 705, 4, new int[] {1, 2, 0, 1});
        expect(x, 1, 1200, 4, new int[] {1, 1, 0, 1});
        expect(x, 1, 1207, 6, new int[] {1, 1, 2, 1});
        expect(x, 1, 2424, 6, new int[] {1, 1, 1, 1});
        x.leave(0);
        Due.due("20: it isn't there", x.board(1, 2424, 0), Due.NONE);
        expect(x, 1, 2400, 5, new int[] {Due.NONE, 1, 1, 1});
        Due.due("20: an empty port", x.board(2, 2424, -1), 0);
    }

    private static void expect(PortLook x, int port, int hours, int risk, int[] whom) {
        Due.due("20: all risk of " + hours, x.board(port, hours, -1), risk);
        for (int s = 0; s < whom.length; s++) {
            Due.due("20: whom " + s + " goes to of " + hours, x.board(port, hours, s), whom[s]);
        }
    }

    private static void boardLeast() {
        PortLook x = new PortLook();
        for (int s = 0; s < 10; s++) {
            x.ship(0, 0, 0);
        }
        for (int s = 9; s >= 0; s--) {
            x.call(s, 0);
        }
        Due.due("20: eight at most", x.board(0, 2424, -1), 8);
        Due.due("20: the eighth", x.board(0, 2424, 7), 1);
        Due.due("20: the ninth isn't looked at", x.board(0, 2424, 8), Due.NONE);
        Due.due("20: two each", x.board(0, 608, -1), 4);
        int[] want = {1, 1, 2, 2, 0, 0, 0, 0};
        for (int s = 0; s < 8; s++) {
            Due.due("20: the least go to the first one", x.board(0, 608, s), want[s]);
        }
    }

    private static void boardBeyond() {
        PortLook x = two();
        int[][] beyond = {{5, 0, -1}, {-1, 0, -1}, {0, -1, -1}, {0, 25, -1}, {0, 99, -1},
            {0, 2500, -1}, {0, 2425, -1}, {0, Integer.MAX_VALUE, -1}, {0, Integer.MIN_VALUE, -1},
            {0, 0, -2}, {0, 0, 2}, {0, 0, Integer.MIN_VALUE}};
        for (int[] b : beyond) {
            Due.due("20: board " + b[0] + " " + b[1] + " " + b[2], x.board(b[0], b[1], b[2]), Due.BEYOND);
        }
        Due.due("20: BEYOND ahead of NONE", x.board(1, 25, 0), Due.BEYOND);
        Due.due("20: NONE", x.board(1, 24, 0), Due.NONE);
    }
}
