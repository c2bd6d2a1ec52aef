/** Promises 26 to 29: doubles, draws. */
public final class DoublesTest {
    private DoublesTest() {
    }

    public static void main(String[] args) {
        were();
        habit();
        draw();
        rate();
        Due.close("DoublesTest");
    }

    private static PortLook twoCalls() {
        PortLook x = Due.withGraveFaultZero();
        x.ship(0, 0, 0);
        x.call(1, 0);
        return x;
    }

    private static void were() {
        PortLook x = twoCalls();
        x.look(0, 0, 0b111);
        x.look(0, 1, 0b11110);
        x.look(0, 0, 0b1);
        x.look(1, 2, 0b1);
        x.look(0, 3, 0b1000000);
        x.look(0, 4, 0);
        Due.due("26: 3 times 4 by 2", x.were(0, 1), 6);
        Due.due("26: the other way round", x.were(1, 0), 6);
        x.look(0, 5, 0b11111);
        Due.due("26: 4 times 5 by 4", x.were(1, 6), 5);
        x.look(0, 2, 0b1101);
        Due.due("26: cut, 5 times 3 by 3", x.were(6, 7), 5);
        Due.due("26: cut, 4 times 3 by 2", x.were(1, 7), 6);
        x.look(0, 2, 0b1111100);
        Due.due("26: cut, 4 times 5 by 3", x.were(1, 8), 6);
        Due.due("26: one inspector", x.were(0, 2), Due.STATE);
        Due.due("26: the same look", x.were(0, 0), Due.STATE);
        Due.due("26: two calls", x.were(0, 3), Due.STATE);
        Due.due("26: none in common", x.were(0, 4), Due.NONE);
        Due.due("26: no fault at all", x.were(0, 5), Due.NONE);
        Due.due("26: no look", x.were(9, 0), Due.BEYOND);
        Due.due("26: no look", x.were(0, 9), Due.BEYOND);
        Due.due("26: no look", x.were(-1, 0), Due.BEYOND);
        Due.due("26: no look", x.were(0, -1), Due.BEYOND);
    }

    private static void habit() {
        PortLook x = twoCalls();
        Due.due("27: no inspector", x.habit(6), Due.BEYOND);
        Due.due("27: no inspector", x.habit(-1), Due.BEYOND);
        Due.due("27: no looks", x.habit(0), Due.NONE);
        x.look(0, 0, 0b111);
        x.look(0, 0, 0b1111);
        Due.due("27: no doubles", x.habit(0), Due.NONE);
        x.look(0, 1, 0);
        Due.due("27: the other one found nothing", x.habit(0), Due.NONE);
        Due.due("27: it found nothing", x.habit(1), 0);
        x.look(1, 2, 0b111);
        Due.due("27: another call", x.habit(2), Due.NONE);
        x.look(0, 3, 0b11100);
        // Of 3 and 3 it found 1 and 2.
        Due.due("27: half", x.habit(0), 50);
        // Of 3, 4 and 0 it found 1 and 2.
        Due.due("27: cut", x.habit(3), 42);
        x.look(1, 0, 0b1);
        // Of 3 more it found 1: 4 of 9.
        Due.due("27: over all calls", x.habit(0), 44);
        Due.due("27: the other one's", x.habit(2), 100);
        Due.due("27: one that never looked", x.habit(5), Due.NONE);
    }

    private static void draw() {
        PortLook x = twoCalls();
        Due.look(x, 0, 0, 3);
        Due.due("28: no look", x.draw(3, 1), Due.BEYOND);
        Due.due("28: no look", x.draw(-1, 1), Due.BEYOND);
        Due.due("28: no chance", x.draw(0, 0), Due.BEYOND);
        Due.due("28: no chance", x.draw(0, 101), Due.BEYOND);
        Due.due("28: the first", x.draw(2, 1), 1);
        Due.due("28: it was", x.draw(2, 100), Due.STATE);
        Due.due("28: BEYOND ahead of STATE", x.draw(2, 0), Due.BEYOND);
        Due.due("28: the second", x.draw(0, 100), 2);
        Due.due("28: two are", x.count(7), 2);
    }

    private static void rate() {
        PortLook x = twoCalls();
        Due.look(x, 0, 1, 2);
        Due.look(x, 1, 0, 3);
        Due.due("29: none is drawn", x.rate(), Due.NONE);
        x.draw(2, 30);
        Due.due("29: none holds", x.rate(), 0);
        x.draw(0, 70);
        // 10000 by 70 is 142, by 30 is 333.
        Due.due("29: each is cut", x.rate(), 142 * 1000 / 475);
        x.draw(1, 1);
        Due.due("29: a rare one", x.rate(), 10142 * 1000 / 10475);
        PortLook v = twoCalls();
        Due.look(v, 0, 1, 1);
        Due.look(v, 1, 0, 1);
        v.draw(0, 73);
        v.draw(1, 80);
        // 10000 by 73 is 136, by 80 is 125.
        Due.due("29: just below 137", v.rate(), 521);
        PortLook y = twoCalls();
        Due.look(y, 0, 1, 1);
        y.draw(0, 100);
        Due.due("29: all hold", y.rate(), 1000);
        PortLook z = twoCalls();
        for (int i = 0; i < 60; i++) {
            z.look(0, 0, 1);
            z.draw(i, 1);
        }
        Due.due("29: sixty of the rarest", z.rate(), 1000);
    }
}
