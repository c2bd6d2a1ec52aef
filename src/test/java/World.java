/**
 * A run of some 90 calls that leaves something of everything behind, so that a change that must not
 * be would be seen; and runs that fill what can be full.
 */
final class World {
    static final int SHIPS = 4;
    static final int CALLS = 4;
    static final int LOOKS = 8;
    static final int DAY = 150;

    /** A plain ship and a tanker are in port 0, a gas one in port 1; a ferry is at sea. */
    static final int PLAIN = 0;
    static final int TANKER = 1;
    static final int GAS = 2;
    static final int BANNED_FERRY = 3;

    static final int OPEN_CALL = 0;
    static final int HELD_CALL = 1;
    static final int GAS_CALL = 2;
    static final int CALL_OVER = 3;

    static final int DRAWN_LOOK = 0;
    static final int LOOK_NOT_DRAWN = 1;

    private World() {
    }

    static void busy(PortLook x) {
        Due.treaty(x, "g0s;w19;l12;", 0);
        Due.treaty(x, "g0s;g1t;w19;l12;", 200);
        x.ship(0, 501, 0);
        x.day(100);
        x.ship(11, 612, 50);
        x.ship(22, 723, 100);
        x.ship(33, 834, 0);
        x.change(PLAIN, 0, 7);
        x.change(TANKER, 1, 3);
        x.change(GAS, 2, 0);
        x.one(0, 1);
        x.one(2, 3);
        x.call(PLAIN, 0);
        x.call(TANKER, 0);
        x.call(GAS, 1);
        x.call(BANNED_FERRY, 4);
        x.look(OPEN_CALL, 0, 0b1);
        x.look(OPEN_CALL, 1, 0b11);
        x.look(OPEN_CALL, 0, 0b10);
        x.look(HELD_CALL, 2, 0b1);
        x.look(CALL_OVER, 3, 0b1);
        x.look(CALL_OVER, 3, 0b1);
        x.look(CALL_OVER, 3, 0b1);
        x.look(CALL_OVER, 4, 0);
        x.leave(CALL_OVER);
        x.rest(PLAIN, 0x3FF);
        x.rest(PLAIN, 0xFFFFFF);
        x.rest(TANKER, 5);
        x.months(24);
        x.draw(DRAWN_LOOK, 50);
        x.draw(2, 25);
        x.day(DAY);
        x.feed('g');
        x.feed('1');
        x.tell(x.risk(PLAIN));
        x.tell(x.risk(TANKER));
    }

    /** The tape has a whole text, then. */
    static void wholeTape(PortLook x) {
        x.feed('s');
        x.feed(';');
    }

    static void ships(PortLook x, int upTo) {
        for (int i = x.count(0); i < upTo; i++) {
            x.ship(0, 0, 0);
        }
    }

    static void changes(PortLook x, int upTo) {
        for (int i = x.count(1); i < upTo; i++) {
            x.change(PLAIN, i % 3, i % 6);
        }
    }

    static void words(PortLook x, int upTo) {
        for (int i = 0; i < 12 && x.one(0, 1) < upTo; i++) {
            continue;
        }
    }

    /** Calls of the gas one, which is in port 1 behind it as ahead of it. */
    static void calls(PortLook x, int upTo) {
        int last = GAS_CALL;
        for (int i = x.count(2); i < upTo; i++) {
            x.leave(last);
            last = x.call(GAS, 1);
        }
    }

    static void looks(PortLook x, int upTo) {
        for (int i = x.count(3); i < upTo; i++) {
            x.look(OPEN_CALL, i % 6, 0b100);
        }
    }

    static void treaties(PortLook x, int upTo) {
        int kept = x.count(5);
        if (kept > 0) {
            x.treaty(0);
        }
        for (int i = x.count(4); i < upTo; i++) {
            Due.treaty(x, "g0s;w19;l12;", 300 + i);
        }
        x.feed('g');
        x.feed('1');
    }

    static void tape(PortLook x, int upTo) {
        for (int i = x.count(5); i < upTo; i++) {
            x.feed('s');
        }
    }

    static void waiting(PortLook x, int upTo) {
        for (int i = x.count(11); i < upTo; i++) {
            x.tell(i);
        }
    }
}
