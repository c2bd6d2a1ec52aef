/** Promises 10 to 17: calls, treaties, looks. */
public final class CallsTest {
    private CallsTest() {
    }

    public static void main(String[] args) {
        call();
        leave();
        of();
        feed();
        treaty();
        faultsOfTexts();
        says();
        inForce();
        look();
        holding();
        told();
        Due.close("CallsTest");
    }

    private static void call() {
        PortLook x = new PortLook();
        Due.due("10: no ship", x.call(0, 0), Due.BEYOND);
        x.ship(0, 0, 0);
        x.ship(0, 0, 0);
        Due.due("10: no ship", x.call(-1, 0), Due.BEYOND);
        Due.due("10: no port", x.call(0, 5), Due.BEYOND);
        Due.due("10: no port", x.call(0, -1), Due.BEYOND);
        Due.due("10: the first", x.call(0, 4), 0);
        Due.due("10: in a port", x.call(0, 4), Due.STATE);
        Due.due("10: BEYOND ahead of STATE", x.call(0, 5), Due.BEYOND);
        for (int i = 1; i < 50; i++) {
            x.leave(i - 1);
            Due.due("10: call " + i, x.call(0, i % 5), i);
        }
        Due.due("10: STATE ahead of FULL", x.call(0, 0), Due.STATE);
        Due.due("10: the 51st", x.call(1, 0), Due.FULL);
        Due.due("10: 50 calls", x.count(2), 50);
        PortLook y = Due.withGraveFaultZero();
        Due.look(y, 0, 1, 3);
        Due.look(y, 0, 0, 1);
        y.leave(0);
        Due.due("10: banned", y.call(0, 0), Due.STATE);
    }

    private static void leave() {
        PortLook x = Due.withGraveFaultZero();
        Due.due("11: no call", x.leave(1), Due.BEYOND);
        Due.due("11: no call", x.leave(-1), Due.BEYOND);
        x.look(0, 0, 1);
        Due.due("11: held", x.leave(0), Due.STATE);
        x.look(0, 0, 2);
        x.day(3);
        Due.due("11: released", x.leave(0), 1);
        Due.due("11: over", x.leave(0), Due.STATE);
        Due.due("11: it is at sea", x.count(8), 0);
        Due.due("11: it may call again", x.call(0, 1), 1);
        Due.due("11: the old one stays over", x.leave(0), Due.STATE);
    }

    private static void of() {
        PortLook x = Due.withGraveFaultZero();
        x.ship(0, 0, 0);
        x.day(40);
        x.call(1, 3);
        Due.due("12: ship", x.of(1, 0), 1);
        Due.due("12: port", x.of(1, 1), 3);
        Due.due("12: from", x.of(1, 2), 40);
        Due.due("12: not over", x.of(1, 3), -1);
        Due.due("12: not held", x.of(1, 4), 0);
        Due.due("12: looks", x.of(1, 5), 0);
        x.look(1, 0, 1);
        Due.due("12: held", x.of(1, 4), 1);
        x.look(1, 0, 0);
        Due.due("12: released", x.of(1, 4), 0);
        Due.due("12: two looks", x.of(1, 5), 2);
        Due.due("12: another call has none", x.of(0, 5), 0);
        x.day(50);
        x.leave(1);
        Due.due("12: over", x.of(1, 3), 50);
        Due.due("12: from stays", x.of(1, 2), 40);
        Due.due("12: no call", x.of(2, 0), Due.BEYOND);
        Due.due("12: no call", x.of(-1, 0), Due.BEYOND);
        Due.due("12: no what", x.of(0, 6), Due.BEYOND);
        Due.due("12: no what", x.of(0, -1), Due.BEYOND);
    }

    private static void feed() {
        PortLook x = new PortLook();
        Due.due("13: no byte", x.feed(256), Due.BEYOND);
        Due.due("13: no byte", x.feed(-1), Due.BEYOND);
        for (int i = 1; i <= 60; i++) {
            Due.due("13: byte " + i, x.feed(i == 1 ? 0 : 255), i);
        }
        Due.due("13: the 61st", x.feed(0), Due.FULL);
        Due.due("13: BEYOND ahead of FULL", x.feed(256), Due.BEYOND);
        Due.due("13: 60 bytes", x.count(5), 60);
    }

    private static void treaty() {
        PortLook x = new PortLook();
        x.feed('l');
        Due.due("14: no day", x.treaty(-1), Due.BEYOND);
        Due.due("14: no day", x.treaty(10000), Due.BEYOND);
        Due.due("14: the tape stays", x.count(5), 1);
        Due.due("14: ends too early", x.treaty(0), -11);
        Due.due("14: the tape is empty", x.count(5), 0);
        Due.due("14: none came", x.count(4), 0);
        Due.due("14: an empty one", x.treaty(9999), 1);
        for (int i = 2; i <= 6; i++) {
            Due.due("14: treaty " + i, Due.treaty(x, "l5;", 0), i);
        }
        x.feed('x');
        Due.due("14: FULL is asked ahead of the text", x.treaty(0), Due.FULL);
        Due.due("14: the tape stays", x.count(5), 1);
        Due.due("14: BEYOND ahead of FULL", x.treaty(-1), Due.BEYOND);
        Due.due("14: six", x.count(4), 6);
    }

    private static void faultsOfTexts() {
        String[] texts = {"x", ";", "g", "gg", "g0", "g0x", "g0ss", "g0s", "g0s;;", "g0s;g", "gs0;",
            "w", "wx", "w1", "w1x", "w12", "w123", "w;", "w1;", "l", "l;", "l1", "l12", "l123",
            "lx", "l1x", "l12;l", "g9f;w99;l99;g", "g:s;", "g/s;", "G0s;", "g0S;", " ", "l-1;"};
        int[] places = {0, 0, 1, 1, 2, 2, 3, 3, 4, 5, 1,
            1, 1, 2, 2, 3, 3, 1, 2, 1, 1, 2, 3, 3,
            1, 2, 5, 13, 1, 1, 0, 2, 0, 1};
        for (int i = 0; i < texts.length; i++) {
            PortLook x = new PortLook();
            Due.due("14: '" + texts[i] + "'", Due.treaty(x, texts[i], 0), -10 - places[i]);
            Due.due("14: none comes of '" + texts[i] + "'", x.count(4), 0);
        }
        PortLook x = new PortLook();
        String rows = "g0s;g1t;g2g;g3f;l1;l02;w00;w19;w95;l00;l99;g0s;g0s;g0s;l9;l9;";
        Due.due("14: 60 bytes that end too early", Due.treaty(x, rows.substring(0, 60), 0), -70);
        Due.due("14: 58 good bytes", Due.treaty(x, rows.substring(0, 58), 0), 1);
    }

    private static void says() {
        PortLook x = new PortLook();
        Due.due("15: none in force", x.says(0, 0), Due.NONE);
        Due.due("15: BEYOND ahead of NONE", x.says(0, 1), Due.BEYOND);
        Due.treaty(x, "g0s;g1t;g2g;g3f;g9f;g9g;w30;w09;w05;l42;l7;", 0);
        Due.due("15: the last limit", x.says(0, 0), 7);
        Due.due("15: the last weight", x.says(0, 10), 5);
        Due.due("15: weight 0", x.says(0, 13), 0);
        Due.due("15: a weight at first", x.says(0, 19), 1);
        Due.due("15: grave for ships", x.says(0, 20), 1);
        Due.due("15: grave for tankers", x.says(0, 21), 3);
        Due.due("15: grave for gas", x.says(0, 22), 7 + 512);
        Due.due("15: grave for ferries", x.says(0, 23), 9 + 512);
        int[] beyond = {-1, 1, 9, 24, 30, Integer.MAX_VALUE, Integer.MIN_VALUE};
        for (int what : beyond) {
            Due.due("15: what " + what, x.says(0, what), Due.BEYOND);
        }
        Due.due("15: no day", x.says(-1, 0), Due.BEYOND);
        Due.due("15: no day", x.says(10000, 0), Due.BEYOND);
        Due.treaty(x, "l0;", 1);
        Due.due("15: limit 0", x.says(1, 0), 0);
        Due.treaty(x, "", 2);
        Due.due("15: the limit at first", x.says(2, 0), 99);
        Due.due("15: nothing grave at first", x.says(2, 22), 0);
        for (int k = 0; k < 10; k++) {
            Due.due("15: weight of " + k + " at first", x.says(2, 10 + k), 1);
        }
        Due.treaty(x, "l42;", 3);
        Due.due("15: a limit of two digits", x.says(3, 0), 42);
        Due.treaty(x, "l08;", 4);
        Due.due("15: a limit with a 0 ahead", x.says(4, 0), 8);
        Due.treaty(x, "l90;", 5);
        Due.due("15: a limit with a 0 behind", x.says(5, 0), 90);
    }

    private static void inForce() {
        PortLook x = new PortLook();
        Due.treaty(x, "l1;", 100);
        Due.treaty(x, "l2;", 50);
        Due.treaty(x, "l3;", 200);
        Due.due("15: ahead of all", x.says(49, 0), Due.NONE);
        Due.due("15: from its day on", x.says(50, 0), 2);
        Due.due("15: told last, though from an earlier day", x.says(150, 0), 2);
        Due.due("15: the next one's eve", x.says(199, 0), 2);
        Due.due("15: told last", x.says(200, 0), 3);
        Due.treaty(x, "l4;", 0);
        Due.due("15: told last of all", x.says(9999, 0), 4);
        Due.due("15: on day 0", x.says(0, 0), 4);
    }

    private static void look() {
        PortLook x = Due.withGraveFaultZero();
        Due.due("16: no call", x.look(1, 0, 0), Due.BEYOND);
        Due.due("16: no call", x.look(-1, 0, 0), Due.BEYOND);
        Due.due("16: no inspector", x.look(0, 6, 0), Due.BEYOND);
        Due.due("16: no inspector", x.look(0, -1, 0), Due.BEYOND);
        Due.due("16: no faults", x.look(0, 0, 1024), Due.BEYOND);
        Due.due("16: no faults", x.look(0, 0, -1), Due.BEYOND);
        Due.due("16: a finding is no look", x.count(3), 0);
        Due.due("16: the first", x.look(0, 5, 1022), 0);
        x.ship(0, 0, 0);
        x.call(1, 0);
        x.leave(1);
        Due.due("16: over", x.look(1, 0, 0), Due.STATE);
        Due.due("16: BEYOND ahead of STATE", x.look(1, 6, 0), Due.BEYOND);
        for (int i = 1; i < 60; i++) {
            Due.due("16: look " + i, x.look(0, 0, 0), i);
        }
        Due.due("16: the 61st", x.look(0, 0, 0), Due.FULL);
        Due.due("16: STATE ahead of FULL", x.look(1, 0, 0), Due.STATE);
        Due.due("16: FULL holds nothing", x.look(0, 0, 1), Due.FULL);
        Due.due("16: not held", x.count(9), 0);
    }

    private static void holding() {
        String[] texts = {"", "l0;", "l3;", "w03;l3;", "w00;l1;", "g0t;", "g0g;", "g0f;", "g0s;"};
        // By text: whether no fault, fault 0, faults 0 to 2 hold, of a tanker.
        int[][] want = {{0, 0, 0}, {1, 1, 1}, {0, 0, 1}, {0, 1, 1}, {0, 0, 1},
            {0, 1, 1}, {0, 0, 0}, {0, 0, 0}, {0, 1, 1}};
        int[] faults = {0, 1, 7};
        for (int i = 0; i < texts.length; i++) {
            PortLook x = new PortLook();
            Due.treaty(x, texts[i], 0);
            x.ship(10, 0, 0);
            x.call(0, 0);
            for (int j = 0; j < faults.length; j++) {
                x.look(0, 0, faults[j]);
                Due.due("16: '" + texts[i] + "' " + faults[j], x.told(j, 4), want[i][j]);
                Due.due("16: held by it", x.of(0, 4), want[i][j]);
            }
        }
        PortLook x = new PortLook();
        x.ship(0, 0, 0);
        x.call(0, 0);
        x.look(0, 0, 1023);
        Due.due("16: without a treaty nothing holds", x.told(0, 4), 0);
        Due.treaty(x, "g0s;", 1);
        x.look(0, 0, 1);
        Due.due("16: it isn't in force yet", x.told(1, 4), 0);
        x.day(1);
        x.look(0, 0, 1);
        Due.due("16: it is in force", x.told(2, 4), 1);
        Due.treaty(x, "l99;", 0);
        Due.due("16: told later, it frees none", x.told(2, 4), 1);
        Due.due("16: nor the call", x.of(0, 4), 1);
        Due.due("16: nor holds one of old", x.told(0, 4), 0);
    }

    private static void told() {
        PortLook x = Due.withGraveFaultZero();
        x.ship(0, 0, 0);
        x.call(1, 0);
        x.day(9);
        x.look(1, 4, 513);
        x.look(0, 2, 0);
        int[] want = {1, 4, 9, 513, 1};
        int[] other = {0, 2, 9, 0, 0};
        for (int what = 0; what < 5; what++) {
            Due.due("17: told(0, " + what + ")", x.told(0, what), want[what]);
            Due.due("17: told(1, " + what + ")", x.told(1, what), other[what]);
        }
        Due.due("17: no what", x.told(0, 5), Due.BEYOND);
        Due.due("17: no what", x.told(0, -1), Due.BEYOND);
        Due.due("17: no look", x.told(2, 0), Due.BEYOND);
        Due.due("17: no look", x.told(-1, 0), Due.BEYOND);
    }
}
