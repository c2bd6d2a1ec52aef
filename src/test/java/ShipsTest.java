/** Promises 1 to 9: ships, what they have, who owns them, the day. */
public final class ShipsTest {
    private ShipsTest() {
    }

    public static void main(String[] args) {
        newObject();
        ship();
        as();
        change();
        has();
        named();
        one();
        fleet();
        day();
        Due.close("ShipsTest");
    }

    private static void newObject() {
        PortLook x = new PortLook();
        for (int what = 0; what <= 11; what++) {
            Due.due("1: count " + what + " of a new object", x.count(what), 0);
        }
        for (int k = 1; k <= 5; k++) {
            Due.due("1: found " + k + " of a new object", x.found(k), 0);
        }
        Due.due("1: months at first", x.months(5), 36);
        Due.due("1: no ship 0", x.risk(0), Due.BEYOND);
    }

    private static void ship() {
        PortLook x = new PortLook();
        int[][] beyond = {
            {-1, 0, 0}, {4, 0, 0}, {9, 0, 0}, {34, 0, 0}, {40, 0, 0}, {Integer.MIN_VALUE, 0, 0},
            {Integer.MAX_VALUE, 0, 0}, {0, -1, 0}, {0, 6, 0}, {0, 9999, 0}, {0, 10000, 0},
            {0, Integer.MIN_VALUE, 0}, {0, 0, -1}, {0, 0, 1}, {0, 0, Integer.MAX_VALUE}};
        for (int[] b : beyond) {
            Due.due("2: ship " + b[0] + " " + b[1] + " " + b[2], x.ship(b[0], b[1], b[2]), Due.BEYOND);
        }
        x.day(7);
        Due.due("2: the first ship", x.ship(33, 9995, 7), 0);
        Due.due("2: built behind the day", x.ship(33, 9995, 8), Due.BEYOND);
        Due.due("2: its name", x.has(0, 0, 7), 99);
        Due.due("2: its flag", x.has(0, 1, 7), 5);
        Due.due("2: its owner", x.has(0, 2, 7), 9);
        for (int i = 1; i < 16; i++) {
            Due.due("2: ship " + i, x.ship(0, 0, 0), i);
        }
        Due.due("2: the 17th", x.ship(0, 0, 0), Due.FULL);
        Due.due("2: BEYOND is asked ahead of FULL", x.ship(4, 0, 0), Due.BEYOND);
        Due.due("2: a finding adds no ship", x.count(0), 16);
    }

    private static void as() {
        PortLook x = new PortLook();
        for (int kind = 0; kind < 4; kind++) {
            x.ship(10 * kind, 0, 0);
        }
        int k = Due.KIND;
        int[][] want = {{3, k, k, k}, {5, 5, k, k}, {7, 7, 7, k}, {4, k, k, 4}};
        for (int s = 0; s < 4; s++) {
            for (int kind = 0; kind < 4; kind++) {
                Due.due("3: as(" + s + ", " + kind + ")", x.as(s, kind), want[s][kind]);
            }
        }
        Due.due("3: no such ship", x.as(4, 0), Due.BEYOND);
        Due.due("3: no such ship", x.as(-1, 0), Due.BEYOND);
        Due.due("3: no such kind", x.as(0, 4), Due.BEYOND);
        Due.due("3: no such kind", x.as(0, -1), Due.BEYOND);
    }

    private static void change() {
        PortLook x = new PortLook();
        Due.due("4: no ship", x.change(0, 0, 0), Due.BEYOND);
        x.ship(0, 1234, 0);
        int[][] beyond = {{1, 0, 0}, {-1, 0, 0}, {0, -1, 0}, {0, 3, 0}, {0, 0, 100}, {0, 0, -1},
            {0, 1, 6}, {0, 1, -1}, {0, 2, 10}, {0, 2, -1}};
        for (int[] b : beyond) {
            Due.due("4: change " + b[0] + " " + b[1] + " " + b[2], x.change(b[0], b[1], b[2]), Due.BEYOND);
        }
        Due.due("4: a finding is no change", x.count(1), 0);
        Due.due("4: name was", x.change(0, 0, 99), 12);
        Due.due("4: flag was", x.change(0, 1, 5), 4);
        Due.due("4: owner was", x.change(0, 2, 9), 3);
        Due.due("4: name was, on the same day", x.change(0, 0, 98), 99);
        Due.due("4: to what it is", x.change(0, 0, 98), 98);
        Due.due("4: changes", x.count(1), 5);
        for (int i = 5; i < 60; i++) {
            x.change(0, 0, i);
        }
        Due.due("4: the 61st", x.change(0, 1, 0), Due.FULL);
        Due.due("4: BEYOND ahead of FULL", x.change(0, 1, 6), Due.BEYOND);
        Due.due("4: FULL changes nothing", x.has(0, 1, 0), 5);
        Due.due("4: 60 changes", x.count(1), 60);
    }

    private static void has() {
        PortLook x = new PortLook();
        x.day(10);
        x.ship(0, 1234, 10);
        x.day(20);
        x.change(0, 0, 50);
        x.change(0, 0, 51);
        x.day(30);
        x.change(0, 0, 52);
        Due.due("5: ahead of its coming", x.has(0, 0, 0), 12);
        Due.due("5: as it came", x.has(0, 0, 10), 12);
        Due.due("5: a day ahead of the change", x.has(0, 0, 19), 12);
        Due.due("5: the last told of a day", x.has(0, 0, 20), 51);
        Due.due("5: between two", x.has(0, 0, 29), 51);
        Due.due("5: the latest", x.has(0, 0, 30), 52);
        Due.due("5: a day to come", x.has(0, 0, 9999), 52);
        Due.due("5: its flag", x.has(0, 1, 9999), 4);
        Due.due("5: its owner", x.has(0, 2, 0), 3);
        Due.due("5: no ship", x.has(1, 0, 0), Due.BEYOND);
        Due.due("5: no ship", x.has(-1, 0, 0), Due.BEYOND);
        Due.due("5: no what", x.has(0, 3, 0), Due.BEYOND);
        Due.due("5: no what", x.has(0, -1, 0), Due.BEYOND);
        Due.due("5: no day", x.has(0, 0, -1), Due.BEYOND);
        Due.due("5: no day", x.has(0, 0, 10000), Due.BEYOND);
    }

    private static void named() {
        PortLook x = new PortLook();
        x.ship(0, 500, 0);
        x.ship(0, 600, 0);
        x.ship(0, 500, 0);
        x.day(10);
        x.change(0, 0, 6);
        Due.due("6: the least of two", x.named(5, 9), 0);
        Due.due("6: the other one from then on", x.named(5, 10), 2);
        Due.due("6: the least of two", x.named(6, 10), 0);
        Due.due("6: ahead of the change", x.named(6, 9), 1);
        Due.due("6: none", x.named(99, 0), Due.NONE);
        Due.due("6: no name", x.named(100, 0), Due.BEYOND);
        Due.due("6: no name", x.named(-1, 0), Due.BEYOND);
        Due.due("6: no day", x.named(0, 10000), Due.BEYOND);
        Due.due("6: no day", x.named(0, -1), Due.BEYOND);
    }

    private static void one() {
        PortLook x = new PortLook();
        Due.due("7: the same", x.one(3, 3), Due.BEYOND);
        Due.due("7: no owner", x.one(10, 0), Due.BEYOND);
        Due.due("7: no owner", x.one(0, 10), Due.BEYOND);
        Due.due("7: no owner", x.one(-1, 0), Due.BEYOND);
        Due.due("7: no owner", x.one(0, -1), Due.BEYOND);
        for (int i = 1; i <= 12; i++) {
            Due.due("7: words, said again too", x.one(0, 1 + i % 2), i);
        }
        Due.due("7: the 13th", x.one(5, 6), Due.FULL);
        Due.due("7: BEYOND ahead of FULL", x.one(5, 5), Due.BEYOND);
        x.ship(0, 60, 0);
        Due.due("7: FULL joins nothing", x.fleet(5, 0), 0);
    }

    private static void fleet() {
        PortLook x = new PortLook();
        for (int i = 0; i < 10; i++) {
            x.ship(0, 10 * i, 0);
        }
        for (int i = 0; i < 10; i++) {
            Due.due("8: its own", x.fleet(i, 0), 1 << i);
        }
        x.one(1, 2);
        x.one(3, 4);
        Due.due("8: two", x.fleet(2, 0), 6);
        x.one(2, 3);
        Due.due("8: over others", x.fleet(1, 0), 30);
        Due.due("8: over others, back", x.fleet(4, 0), 30);
        Due.due("8: another", x.fleet(0, 0), 1);
        x.day(10);
        x.change(9, 2, 1);
        Due.due("8: from the change on", x.fleet(4, 10), 30 + 512);
        Due.due("8: ahead of the change", x.fleet(4, 9), 30);
        Due.due("8: none is left", x.fleet(9, 10), 0);
        x.one(9, 0);
        Due.due("8: ones are so on days gone by", x.fleet(0, 0), 1 + 512);
        Due.due("8: no owner", x.fleet(10, 0), Due.BEYOND);
        Due.due("8: no owner", x.fleet(-1, 0), Due.BEYOND);
        Due.due("8: no day", x.fleet(0, -1), Due.BEYOND);
        Due.due("8: no day", x.fleet(0, 10000), Due.BEYOND);
    }

    private static void day() {
        PortLook x = new PortLook();
        Due.due("9: no day", x.day(-1), Due.BEYOND);
        Due.due("9: the same day", x.day(0), 0);
        Due.due("9: later", x.day(12), 12);
        Due.due("9: ahead of the day", x.day(11), Due.BEYOND);
        Due.due("9: a finding changes nothing", x.count(6), 12);
        Due.due("9: no day", x.day(10000), Due.BEYOND);
        Due.due("9: the last day", x.day(9999), 9987);
        Due.due("9: the last day again", x.day(9999), 0);
    }
}
