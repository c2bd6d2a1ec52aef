import java.util.Arrays;

/** Promise 31, check: none wait, all are right, the first that isn't, and one without a ship. */
public final class Promise31CheckTest {
    private Promise31CheckTest() {
    }

    public static void main(String[] args) {
        noneWait();
        theFirstThatIsNot();
        noShip();
        sixteen();
        noneDoThen();
        Due.close("Promise31CheckTest");
    }

    /** New plain ships, whose risk is 1, and numbers that wait. */
    private static Edges.Calls told(int ships, int... numbers) {
        return x -> {
            World.ships(x, ships);
            for (int v : numbers) {
                x.tell(v);
            }
        };
    }

    private static void check(String test, Edges.Calls ahead, int want) {
        Edges.allowed("31: " + test, ahead, x -> x.check(), want);
    }

    private static void noneWait() {
        check("none wait, no ship", Edges.NEW, 0);
        check("none wait", told(3), 0);
        check("checked already", Edges.both(told(1, 7), x -> x.check()), 0);
    }

    private static void theFirstThatIsNot() {
        check("one that is", told(3, 1), 0);
        check("one above", told(3, 2), 1);
        check("one below", told(3, 0), 1);
        check("the least number", told(3, Integer.MIN_VALUE), 1);
        check("the most", told(3, Integer.MAX_VALUE), 1);
        check("all are", told(3, 1, 1, 1), 0);
        check("the last isn't", told(3, 1, 1, 2), 3);
        check("the second isn't", told(3, 1, 2, 1), 2);
        check("the first of two that aren't", told(3, 1, 2, 2), 2);
        check("as they are when asked", Edges.both(told(1, 1), x -> x.day(365)), 1);
        check("as they are when asked, the eve", Edges.both(told(1, 1), x -> x.day(364)), 0);
        check("in use", World::busy, 0);
    }

    private static void noShip() {
        check("without ships", told(0, 1), 1);
        check("the last ship", told(2, 1, 1), 0);
        check("one behind the last ship", told(2, 1, 1, 1), 3);
        check("BEYOND is no risk", told(2, 1, 1, Due.BEYOND), 3);
        check("a ship that comes later", Edges.both(told(2, 1, 1, 1), x -> World.ships(x, 3)), 0);
        check("the first of both", told(2, 1, 3, 1), 2);
    }

    private static void sixteen() {
        int[] ones = new int[16];
        Arrays.fill(ones, 1);
        check("all 16", told(16, ones), 0);
        check("15 ships of 16", told(15, ones), 16);
        int[] lastWrong = ones.clone();
        lastWrong[15] = 2;
        check("the 16th isn't", told(16, lastWrong), 16);
    }

    private static void noneDoThen() {
        Edges.Calls waiting = told(3, 1, 5, 1);
        Edges.allowed("31: three wait", waiting, x -> x.count(11), 3);
        Edges.allowed("31: none do then", Edges.both(waiting, x -> x.check()), x -> x.count(11), 0);
        Edges.alike("31: nothing else changes", x -> World.ships(x, 3), Edges.both(waiting, x -> x.check()));
    }
}
