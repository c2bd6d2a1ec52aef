import java.util.Arrays;

/**
 * All that an object tells of itself, in parts. A part takes up to 330 calls and may change the
 * object, so each part is asked of an object of its own.
 */
final class Portrait {
    static final int PARTS = 10;

    private static final int SHIPS = 16;
    private static final int CALLS = 50;
    private static final int LOOKS = 60;

    private final PortLook x;
    private final int today;
    private final int[] answers = new int[400];
    private int size;

    private Portrait(PortLook x) {
        this.x = x;
        this.today = x.count(6);
    }

    static int[] found(PortLook x) {
        int[] found = new int[6];
        for (int k = 1; k <= 5; k++) {
            found[k] = x.found(k);
        }
        return found;
    }

    static int[] of(PortLook x, int part) {
        Portrait p = new Portrait(x);
        switch (part) {
            case 0 -> p.numbers();
            case 1 -> p.ships();
            case 2 -> p.calls();
            case 3 -> p.looks();
            case 4 -> p.treatiesAndTape();
            case 5 -> p.boardings();
            case 6 -> p.rest();
            case 7 -> p.whatIsBarred();
            case 8 -> p.whatComesNext();
            default -> p.risksOfDaysToCome();
        }
        return Arrays.copyOf(p.answers, p.size);
    }

    private void put(int answer) {
        answers[size] = answer;
        size++;
    }

    private void numbers() {
        for (int what = 0; what <= 11; what++) {
            put(x.count(what));
        }
        for (int what = 0; what <= 2; what++) {
            for (int flag = 0; flag <= 5; flag++) {
                put(x.share(0, flag, what));
            }
            for (int society = 0; society <= 3; society++) {
                put(x.share(1, society, what));
            }
            put(x.share(2, 0, what));
        }
        for (int inspector = 0; inspector <= 5; inspector++) {
            put(x.habit(inspector));
        }
        for (int owner = 0; owner <= 9; owner++) {
            put(x.fleet(owner, 0));
            put(x.fleet(owner, today));
        }
        put(x.rate());
        put(x.months(1));
    }

    private void ships() {
        for (int s = 0; s < SHIPS; s++) {
            for (int kind = 0; kind <= 3; kind++) {
                put(x.as(s, kind));
            }
            for (int what = 0; what <= 2; what++) {
                put(x.has(s, what, 0));
                put(x.has(s, what, Math.max(0, today - 1)));
                put(x.has(s, what, today));
                put(x.has(s, what, 9999));
                put(x.banned(s, what));
            }
            put(x.risk(s));
        }
    }

    private void calls() {
        for (int c = 0; c < CALLS; c++) {
            for (int what = 0; what <= 5; what++) {
                put(x.of(c, what));
            }
        }
    }

    private void looks() {
        for (int l = 0; l < LOOKS; l++) {
            for (int what = 0; what <= 4; what++) {
                put(x.told(l, what));
            }
        }
    }

    private void treatiesAndTape() {
        says(0);
        says(today);
        says(9999);
        put(x.count(5));
        // What is on the tape shows when it is read: as a treaty, or by the place of its fault.
        put(x.treaty(9999));
        says(9999);
        put(x.count(4));
    }

    private void says(int day) {
        put(x.says(day, 0));
        for (int what = 10; what <= 23; what++) {
            put(x.says(day, what));
        }
    }

    private void boardings() {
        for (int port = 0; port <= 4; port++) {
            for (int what = -1; what < SHIPS; what++) {
                put(x.board(port, 2424, what));
                put(x.board(port, 507, what));
            }
        }
    }

    private void rest() {
        for (int s = 0; s < SHIPS; s++) {
            put(x.tired(s, 0));
            put(x.tired(s, 1));
            put(x.tired(s, 2));
            for (int day = 0; day < 7; day++) {
                put(x.rest(s, 0xFFF));
                put(x.tired(s, 0));
            }
        }
    }

    private void whatIsBarred() {
        for (int l = 0; l < LOOKS; l++) {
            put(x.draw(l, 50));
        }
        put(x.rate());
        for (int c = 0; c < CALLS; c++) {
            put(x.leave(c));
        }
        for (int s = 0; s < SHIPS; s++) {
            put(x.lift(s));
            put(x.call(s, 0));
        }
        put(x.count(6));
    }

    private void whatComesNext() {
        put(x.check());
        for (int i = 0; i < 17; i++) {
            put(x.tell(1));
        }
        put(x.check());
        for (int i = 0; i < 13; i++) {
            put(x.one(8, 9));
        }
        for (int i = 0; i < 61; i++) {
            put(x.feed('l'));
        }
        for (int i = 0; i < 17; i++) {
            put(x.ship(0, 0, 0));
        }
        for (int i = 0; i < 61; i++) {
            put(x.change(0, 0, i));
        }
        for (int i = 0; i < 61; i++) {
            put(x.look(0, 0, 1));
        }
    }

    /** When a ship was looked at last shows as years go by. */
    private void risksOfDaysToCome() {
        for (int step = 1; step <= 15; step++) {
            put(x.day(Math.min(9999, today + 25 * step)));
            for (int s = 0; s < SHIPS; s++) {
                put(x.risk(s));
            }
        }
    }
}
