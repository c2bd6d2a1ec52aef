/** Promises 21 to 25: rest, bans. */
public final class BansTest {
    private static final int ALL_DAY = 16777215;

    private BansTest() {
    }

    public static void main(String[] args) {
        rest();
        tired();
        firstWrong();
        months();
        banned();
        bannedByMonths();
        bannedOfDarkFlag();
        lift();
        Due.close("BansTest");
    }

    private static PortLook oneShip() {
        PortLook x = new PortLook();
        x.ship(0, 0, 0);
        return x;
    }

    private static void rest() {
        PortLook x = oneShip();
        x.ship(0, 0, 0);
        Due.due("21: no ship", x.rest(2, 0), Due.BEYOND);
        Due.due("21: no ship", x.rest(-1, 0), Due.BEYOND);
        Due.due("21: too many bits", x.rest(0, ALL_DAY + 1), Due.BEYOND);
        Due.due("21: too few", x.rest(0, -1), Due.BEYOND);
        for (int i = 1; i <= 7; i++) {
            Due.due("21: day " + i, x.rest(0, ALL_DAY), 24 * i);
        }
        Due.due("21: the oldest goes", x.rest(0, 1 << 23 | 1), 146);
        Due.due("21: the other ship's", x.rest(1, 5), 2);
    }

    private static void tired() {
        PortLook x = oneShip();
        Due.due("22: no ship", x.tired(1, 0), Due.BEYOND);
        Due.due("22: no ship", x.tired(-1, 0), Due.BEYOND);
        Due.due("22: no what", x.tired(0, 3), Due.BEYOND);
        Due.due("22: no what", x.tired(0, -1), Due.BEYOND);
        Due.due("22: none at first", x.tired(0, 2), 0);
        Due.due("22: the 24th hour", x.tired(0, 0), 23);
        for (int i = 0; i < 6; i++) {
            x.rest(0, (1 << 11) - 1);
        }
        x.rest(0, (1 << 10) - 1);
        Due.due("22: hours of rest", x.tired(0, 2), 76);
        Due.due("22: fewer than 77", x.tired(0, 1), 1);
        for (int i = 0; i < 7; i++) {
            x.rest(0, (1 << 11) - 1);
        }
        Due.due("22: 77", x.tired(0, 1), 0);
        Due.due("22: no hour is wrong", x.tired(0, 0), Due.NONE);
    }

    private static void firstWrong() {
        PortLook x = oneShip();
        int lastTen = ((1 << 10) - 1) << 14;
        int firstTen = (1 << 10) - 1;
        for (int i = 0; i < 7; i++) {
            x.rest(0, firstTen);
        }
        Due.due("22: ten of each 24", x.tired(0, 0), Due.NONE);
        x.rest(0, lastTen);
        // Hours 144 .. 157 are none: at 144 the day behind has lost its first hour of rest.
        Due.due("22: hour h is bit h", x.tired(0, 0), 144);
        for (int i = 0; i < 5; i++) {
            x.rest(0, ALL_DAY);
        }
        Due.due("22: days go back", x.tired(0, 0), 24);
        x.rest(0, ALL_DAY);
        Due.due("22: the last ten of the first day are enough", x.tired(0, 0), Due.NONE);
        PortLook y = oneShip();
        y.rest(0, (1 << 9) - 1);
        Due.due("22: nothing ahead", y.tired(0, 0), 23);
        for (int i = 0; i < 6; i++) {
            y.rest(0, ALL_DAY);
        }
        Due.due("22: nine in the first day", y.tired(0, 0), 23);
    }

    private static void months() {
        PortLook x = new PortLook();
        Due.due("23: none", x.months(0), Due.BEYOND);
        Due.due("23: too many", x.months(100), Due.BEYOND);
        Due.due("23: below", x.months(-1), Due.BEYOND);
        Due.due("23: at first", x.months(1), 36);
        Due.due("23: what it was", x.months(99), 1);
        Due.due("23: what it was", x.months(99), 99);
    }

    private static void banned() {
        PortLook x = Due.withGraveFaultZero();
        Due.due("24: no ship", x.banned(1, 0), Due.BEYOND);
        Due.due("24: no ship", x.banned(-1, 0), Due.BEYOND);
        Due.due("24: no what", x.banned(0, 3), Due.BEYOND);
        Due.due("24: no what", x.banned(0, -1), Due.BEYOND);
        x.day(10);
        Due.look(x, 0, 1, 1);
        Due.look(x, 0, 0, 1);
        x.leave(0);
        x.call(0, 3);
        Due.look(x, 1, 1, 1);
        Due.look(x, 1, 0, 1);
        Due.due("24: not yet", x.banned(0, 0), 0);
        Due.due("24: never", x.banned(0, 1), 0);
        Due.due("24: since no day", x.banned(0, 2), Due.NONE);
        x.ship(0, 0, 0);
        x.call(1, 0);
        Due.look(x, 2, 1, 1);
        Due.due("24: another ship's hold", x.banned(1, 0), 0);
        x.day(20);
        Due.look(x, 1, 1, 1);
        Due.due("24: the third, in whatever port", x.banned(0, 0), 1);
        x.day(30);
        Due.look(x, 1, 1, 1);
        Due.due("24: it stays so", x.banned(0, 1), 1);
        Due.due("24: since when", x.banned(0, 2), 20);
        Due.due("24: banned ships", x.count(10), 1);
    }

    private static void bannedByMonths() {
        for (int gap = 59; gap <= 60; gap++) {
            PortLook x = Due.withGraveFaultZero();
            x.months(2);
            Due.look(x, 0, 1, 2);
            x.day(gap);
            Due.look(x, 0, 1, 1);
            Due.due("24: two months, behind " + gap + " days", x.banned(0, 0), gap == 59 ? 1 : 0);
            x.months(99);
            Due.due("24: it is told when the look is made", x.banned(0, 0), gap == 59 ? 1 : 0);
            Due.look(x, 0, 1, 1);
            Due.due("24: the one behind it", x.banned(0, 0), 1);
        }
        PortLook x = Due.withGraveFaultZero();
        Due.look(x, 0, 1, 2);
        x.day(1080);
        Due.look(x, 0, 1, 1);
        Due.due("24: 36 months are 1080 days", x.banned(0, 0), 0);
    }

    private static void bannedOfDarkFlag() {
        // Of 5 months two thirds are 3: 90 days.
        for (int gap = 89; gap <= 90; gap++) {
            for (int clean = 6; clean <= 7; clean++) {
                PortLook x = Due.withGraveFaultZero();
                x.ship(0, 1, 0);
                x.call(1, 0);
                x.months(5);
                Due.look(x, 0, 1, 2);
                x.day(gap);
                Due.look(x, 1, 0, clean);
                Due.look(x, 0, 1, 1);
                boolean dark = clean == 7;
                Due.due("24: is the flag dark", x.share(0, 0, 2), dark ? 1 : 0);
                Due.due("24: behind " + gap + " days, dark " + dark, x.banned(0, 0), dark && gap == 90 ? 0 : 1);
            }
        }
    }

    private static void lift() {
        PortLook x = Due.withGraveFaultZero();
        Due.due("25: no ship", x.lift(1), Due.BEYOND);
        Due.due("25: no ship", x.lift(-1), Due.BEYOND);
        Due.due("25: not banned", x.lift(0), Due.STATE);
        x.day(10);
        Due.look(x, 0, 1, 3);
        x.day(99);
        Due.look(x, 0, 0, 1);
        x.leave(0);
        Due.due("25: a day too early", x.lift(0), Due.STATE);
        x.day(100);
        Due.due("25: behind 90 days", x.lift(0), 1);
        Due.due("25: it is lifted", x.banned(0, 0), 0);
        Due.due("25: since no day", x.banned(0, 2), Due.NONE);
        Due.due("25: it was once", x.banned(0, 1), 1);
        Due.due("25: no longer banned", x.lift(0), Due.STATE);
        x.call(0, 0);
        Due.look(x, 1, 1, 1);
        Due.due("25: the fourth bans again", x.banned(0, 1), 2);
        Due.due("25: since when", x.banned(0, 2), 100);
        Due.look(x, 1, 0, 1);
        x.day(280);
        Due.due("25: in a port", x.lift(0), Due.STATE);
        x.leave(1);
        Due.due("25: behind 180 days", x.lift(0), 1);
        x.call(0, 0);
        Due.look(x, 2, 1, 1);
        Due.look(x, 2, 0, 1);
        x.leave(2);
        x.day(280 + 269);
        Due.due("25: the third needs 270", x.lift(0), Due.STATE);
        x.day(280 + 270);
        Due.due("25: behind 270 days", x.lift(0), 1);
    }
}
