/** Promises 30 to 33: what is told. */
public final class ToldTest {
    private ToldTest() {
    }

    public static void main(String[] args) {
        tell();
        check();
        count();
        found();
        Due.close("ToldTest");
    }

    private static void tell() {
        PortLook x = new PortLook();
        for (int i = 1; i <= 16; i++) {
            Due.due("30: number " + i, x.tell(i % 2 == 0 ? Integer.MIN_VALUE : Integer.MAX_VALUE), i);
        }
        Due.due("30: the 17th", x.tell(0), Due.FULL);
        Due.due("30: 16 wait", x.count(11), 16);
        x.check();
        Due.due("30: the first again", x.tell(0), 1);
    }

    private static void check() {
        PortLook x = new PortLook();
        Due.due("31: none wait", x.check(), 0);
        x.ship(0, 0, 0);
        x.ship(10, 0, 0);
        x.ship(30, 0, 0);
        x.tell(1);
        x.tell(2);
        Due.due("31: they are", x.check(), 0);
        Due.due("31: none wait then", x.count(11), 0);
        x.tell(1);
        x.tell(1);
        x.tell(7);
        Due.due("31: the first that isn't", x.check(), 2);
        Due.due("31: none wait then either", x.count(11), 0);
        x.tell(1);
        x.tell(2);
        x.tell(1);
        x.tell(1);
        Due.due("31: there is no such ship", x.check(), 4);
        x.tell(0);
        Due.due("31: the first", x.check(), 1);
        x.day(365);
        x.tell(2);
        x.tell(4);
        x.tell(2);
        Due.due("31: as on the day", x.check(), 0);
    }

    private static void count() {
        PortLook x = Due.withGraveFaultZero();
        x.ship(0, 0, 0);
        x.ship(0, 0, 0);
        x.call(1, 2);
        x.call(2, 2);
        x.leave(1);
        x.change(0, 0, 1);
        x.feed(0);
        x.feed(0);
        Due.look(x, 0, 1, 4);
        x.draw(0, 50);
        x.draw(1, 50);
        x.draw(2, 50);
        x.day(17);
        x.tell(0);
        int[] want = {3, 1, 3, 4, 1, 2, 17, 3, 2, 1, 1, 1};
        for (int what = 0; what < want.length; what++) {
            Due.due("32: count " + what, x.count(what), want[what]);
        }
        Due.due("32: another what", x.count(12), Due.BEYOND);
        Due.due("32: another what", x.count(-1), Due.BEYOND);
    }

    private static void found() {
        PortLook x = new PortLook();
        Due.due("33: another k", x.found(0), Due.BEYOND);
        Due.due("33: another k", x.found(6), Due.BEYOND);
        Due.due("33: another k", x.found(-1), Due.BEYOND);
        Due.due("33: they are counted, too", x.found(1), 3);
        x.rate();
        x.rate();
        Due.due("33: NONE", x.found(2), 2);
        x.ship(0, 0, 0);
        x.lift(0);
        Due.due("33: STATE", x.found(3), 1);
        for (int i = 0; i < 20; i++) {
            x.tell(0);
        }
        Due.due("33: FULL", x.found(4), 4);
        x.as(0, 3);
        Due.due("33: KIND", x.found(5), 1);
        Due.treaty(x, "x", 0);
        Due.due("33: a text's fault is no finding", x.found(1) + x.found(2), 5);
    }
}
