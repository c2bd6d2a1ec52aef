/** Promise 33, found: how often each finding was told. */
public final class Promise33FoundTest {
    private Promise33FoundTest() {
    }

    public static void main(String[] args) {
        beyond();
        noneAtFirst();
        eachOfThem();
        countedToo();
        whatIsNoFinding();
        byTheHundred();
        Due.close("Promise33FoundTest");
    }

    private static void beyond() {
        Edges.range("33: k", Edges.NEW, (x, v) -> x.found(v), 1, 5);
        Edges.range("33: k", World::busy, (x, v) -> x.found(v), 1, 5);
        Edges.beyond("33: a finding is no k", World::busy, (x, v) -> x.found(v), Due.BEYOND, Due.KIND);
    }

    private static void noneAtFirst() {
        for (int k = 1; k <= 5; k++) {
            int its = k;
            Edges.allowed("33: at first, " + k, Edges.NEW, x -> x.found(its), 0);
            Edges.allowed("33: in use, none was told, " + k, World::busy, x -> x.found(its), 0);
        }
    }

    private static void eachOfThem() {
        Edges.Calls all = Edges.both(World::busy, x -> {
            x.risk(-1);
            x.named(99, 0);
            x.named(98, 0);
            x.leave(World.HELD_CALL);
            x.leave(World.HELD_CALL);
            x.leave(World.HELD_CALL);
            World.waiting(x, 16);
            for (int i = 0; i < 4; i++) {
                x.tell(0);
            }
            for (int i = 0; i < 5; i++) {
                x.as(World.PLAIN, 1);
            }
        });
        for (int k = 1; k <= 5; k++) {
            int its = k;
            Edges.allowed("33: LOW less " + k, all, x -> x.found(its), k);
        }
    }

    private static void countedToo() {
        PortLook x = new PortLook();
        for (int i = 0; i < 5; i++) {
            Due.due("33: found(1) ahead of " + i, x.found(1), i);
            Due.due("33: another k", x.found(i % 2 == 0 ? 0 : 6), Due.BEYOND);
        }
        Due.due("33: found(1)", x.found(1), 5);
        Due.due("33: found(1) doesn't count", x.found(1), 5);
        Due.due("33: the others stay", x.found(2) + x.found(3) + x.found(4) + x.found(5), 0);
    }

    private static void whatIsNoFinding() {
        PortLook x = new PortLook();
        Due.treaty(x, "x", 0);
        x.ship(0, 0, 0);
        x.tell(9);
        x.check();
        x.call(0, 0);
        x.of(0, 3);
        x.board(0, 0, -1);
        for (int k = 1; k <= 5; k++) {
            Due.due("33: a fault, -1, 0 and a wrong risk are none, " + k, x.found(k), 0);
        }
    }

    private static void byTheHundred() {
        PortLook x = new PortLook();
        for (int i = 0; i < 510; i++) {
            x.rate();
        }
        Due.due("33: told by the 511th call", x.found(2), 510);
        Due.due("33: told by the 512th call", x.found(1), 0);
    }
}
