import java.util.Random;

/**
 * Runs of drawn calls (from a fixed seed), each answer beside that of the model; and runs of wild
 * numbers, far beyond 512 calls, that must never throw.
 */
public final class ModelTest {
    private static final int[] WILD = {Integer.MIN_VALUE, Integer.MIN_VALUE + 1, -1000001, -2, -1, 0, 1, 2, 3, 4, 5, 6,
        7, 9, 10, 16, 24, 50, 60, 99, 100, 255, 256, 1023, 1024, 2424, 9999, 10000, 16777215, 16777216,
        Integer.MAX_VALUE - 1, Integer.MAX_VALUE};
    private static final String[] TEXTS = {"g0s;", "g1t;", "g2g;", "g3f;", "w15;", "w00;", "w92;", "l3;", "l12;", "l0;",
        "l99;", "g", "w1", "x", ";", "l123;"};

    private final Random random;
    private final int pace;
    private final PortLook object = new PortLook();
    private final Model model = new Model();
    private final StringBuilder run = new StringBuilder();
    private int today;
    private boolean same = true;

    private ModelTest(long seed) {
        random = new Random(seed);
        int[] paces = {1, 5, 40, 200};
        pace = paces[random.nextInt(paces.length)];
    }

    public static void main(String[] args) {
        int runs = args.length > 0 ? Integer.parseInt(args[0]) : 1500;
        for (int seed = 0; seed < runs; seed++) {
            ModelTest t = new ModelTest(seed);
            t.goOn();
            Due.holds("the run of seed " + seed, t.same);
        }
        for (int seed = 0; seed < 100; seed++) {
            wild(seed);
        }
        Due.close("ModelTest");
    }

    static int answer(PortLook x, int promise, int a, int b, int c) {
        return switch (promise) {
            case 2 -> x.ship(a, b, c);
            case 3 -> x.as(a, b);
            case 4 -> x.change(a, b, c);
            case 5 -> x.has(a, b, c);
            case 6 -> x.named(a, b);
            case 7 -> x.one(a, b);
            case 8 -> x.fleet(a, b);
            case 9 -> x.day(a);
            case 10 -> x.call(a, b);
            case 11 -> x.leave(a);
            case 12 -> x.of(a, b);
            case 13 -> x.feed(a);
            case 14 -> x.treaty(a);
            case 15 -> x.says(a, b);
            case 16 -> x.look(a, b, c);
            case 17 -> x.told(a, b);
            case 18 -> x.share(a, b, c);
            case 19 -> x.risk(a);
            case 20 -> x.board(a, b, c);
            case 21 -> x.rest(a, b);
            case 22 -> x.tired(a, b);
            case 23 -> x.months(a);
            case 24 -> x.banned(a, b);
            case 25 -> x.lift(a);
            case 26 -> x.were(a, b);
            case 27 -> x.habit(a);
            case 28 -> x.draw(a, b);
            case 29 -> x.rate();
            case 30 -> x.tell(a);
            case 31 -> x.check();
            case 32 -> x.count(a);
            default -> x.found(a);
        };
    }

    private int ask(int promise, int a, int b, int c) {
        int got = answer(object, promise, a, b, c);
        int want = model.answer(promise, a, b, c);
        run.append(promise).append('(').append(a).append(", ").append(b).append(", ").append(c).append(") ").append(got)
            .append('\n');
        if (got != want && same) {
            same = false;
            System.out.println(run + "due is " + want);
        }
        return got;
    }

    private void goOn() {
        int firstShips = random.nextInt(9);
        for (int i = 0; i < firstShips; i++) {
            newShip();
        }
        if (random.nextInt(4) > 0) {
            feed("g0s;w15;w23;l7;");
            ask(14, 0, 0, 0);
        }
        for (int i = 0; i < 440 && same; i++) {
            step();
        }
    }

    private int upTo(int n) {
        return random.nextInt(n + 1);
    }

    /** Mostly a number of so many, now and then one beyond. */
    private int about(int n) {
        return random.nextInt(25) == 0 ? WILD[random.nextInt(WILD.length)] : upTo(Math.max(n, 0));
    }

    private int aShip() {
        return about(object.count(0) - 1 + (random.nextInt(20) == 0 ? 1 : 0));
    }

    private int aCall() {
        int n = object.count(2);
        return random.nextInt(3) > 0 ? about(n - 1) : about(Math.min(5, n - 1)) + Math.max(0, n - 6);
    }

    private int aLook() {
        return about(object.count(3) - 1);
    }

    private int aDay() {
        int near = today + upTo(3) - 2;
        return random.nextInt(3) == 0 ? about(9999) : random.nextInt(2) == 0 ? near : about(today);
    }

    private void newShip() {
        int as = 100 * upTo(5) + 10 * about(4) + upTo(3);
        ask(2, 10 * upTo(3) + upTo(3), as, random.nextInt(15) == 0 ? about(9999) : upTo(today));
    }

    private void feed(String text) {
        for (int i = 0; i < text.length(); i++) {
            ask(13, text.charAt(i), 0, 0);
        }
    }

    private int someFaults() {
        int few = 1 << upTo(9) | 1 << upTo(9);
        return random.nextInt(4) == 0 ? about(1023) : random.nextInt(3) == 0 ? 0 : few;
    }

    private void step() {
        switch (random.nextInt(14)) {
            case 0 -> {
                int d = random.nextInt(12) == 0 ? aDay() : today + upTo(pace) * upTo(4);
                if (ask(9, d, 0, 0) >= 0) {
                    today = d;
                }
            }
            case 1 -> ask(10, aShip(), about(2), 0);
            case 2, 3 -> ask(16, aCall(), about(5), someFaults());
            case 4 -> ask(11, aCall(), 0, 0);
            case 5 -> shipStep();
            case 6 -> tapeStep();
            case 7 -> ask(20, about(2), 100 * about(24) + about(24), about(object.count(0)) - 1);
            case 8 -> ask(18, about(2), about(3), about(2));
            case 9 -> banStep();
            case 10 -> ask(21, aShip(), random.nextBoolean() ? random.nextInt(1 << 24) : about(1 << 24), 0);
            case 11 -> askStep();
            default -> ask(random.nextInt(32) + 2, about(15), about(9), about(5));
        }
    }

    private void shipStep() {
        switch (random.nextInt(8)) {
            case 0 -> newShip();
            case 1, 2 -> ask(4, aShip(), about(2), about(5));
            case 3 -> ask(5, aShip(), about(2), aDay());
            case 4 -> ask(6, about(6), aDay(), 0);
            case 5 -> ask(7, about(9), about(9), 0);
            case 6 -> ask(8, about(9), aDay(), 0);
            default -> ask(3, aShip(), about(3), 0);
        }
    }

    private void tapeStep() {
        if (random.nextInt(3) == 0) {
            ask(15, aDay(), random.nextInt(26), 0);
            return;
        }
        if (random.nextInt(6) == 0) {
            for (int i = upTo(3); i >= 0; i--) {
                feed(TEXTS[random.nextInt(TEXTS.length)]);
            }
            ask(14, aDay(), 0, 0);
        }
    }

    private void banStep() {
        switch (random.nextInt(4)) {
            case 0 -> ask(23, random.nextInt(3) > 0 ? 1 + upTo(4) : about(100), 0, 0);
            case 1 -> ask(24, aShip(), about(2), 0);
            default -> ask(25, aShip(), 0, 0);
        }
    }

    private void askStep() {
        switch (random.nextInt(10)) {
            case 0 -> ask(26, aLook(), aLook(), 0);
            case 1 -> ask(27, about(5), 0, 0);
            case 2, 3 -> ask(28, aLook(), about(100), 0);
            case 4 -> ask(29, 0, 0, 0);
            case 5 -> ask(22, aShip(), about(2), 0);
            case 6 -> tellRisks();
            case 7 -> ask(32, about(11), 0, 0);
            case 8 -> ask(17, aLook(), about(4), 0);
            default -> ask(12, aCall(), about(5), 0);
        }
    }

    private void tellRisks() {
        int n = Math.min(upTo(4), object.count(0));
        for (int s = 0; s < n; s++) {
            ask(30, ask(19, s, 0, 0), 0, 0);
        }
        ask(31, 0, 0, 0);
    }

    private static void wild(long seed) {
        Random r = new Random(seed);
        PortLook x = new PortLook();
        Model m = new Model();
        for (int i = 0; i < 3000; i++) {
            int[] v = new int[3];
            for (int j = 0; j < 3; j++) {
                v[j] = r.nextInt(9) == 0 ? r.nextInt() : r.nextInt(3) == 0 ? WILD[r.nextInt(WILD.length)] : r.nextInt(12);
            }
            int promise = 2 + r.nextInt(32);
            int got = answer(x, promise, v[0], v[1], v[2]);
            int want = m.answer(promise, v[0], v[1], v[2]);
            Due.due("wild " + seed + ", call " + i + ", promise " + promise, got, want);
        }
    }
}
