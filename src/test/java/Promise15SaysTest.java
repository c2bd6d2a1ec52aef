/** Promise 15, says: limits, weights, what is grave, and which treaty is in force. */
public final class Promise15SaysTest {
    private Promise15SaysTest() {
    }

    public static void main(String[] args) {
        beyond();
        none();
        atFirst();
        leastAndMost();
        lastRow();
        graveForKinds();
        inForce();
        Due.close("Promise15SaysTest");
    }

    private static Edges.Calls text(String text) {
        return x -> Due.treaty(x, text, 0);
    }

    private static void beyond() {
        Edges.range("15: day", World::busy, (x, v) -> x.says(v, 0), 0, 9999);
        Edges.range("15: what, limit", World::busy, (x, v) -> x.says(0, v), 0, 0);
        Edges.range("15: what, weights and kinds", World::busy, (x, v) -> x.says(0, v), 10, 23);
        Edges.beyond("15: what", World::busy, (x, v) -> x.says(0, v), 5, 29, 30);
        Edges.allowed("15: the last weight", World::busy, x -> x.says(0, 19), 1);
        Edges.allowed("15: the first kind", World::busy, x -> x.says(0, 20), 1);
        Edges.refused("15: no day is asked ahead of NONE", Edges.NEW, x -> x.says(10000, 0), Due.BEYOND);
        Edges.refused("15: no what is asked ahead of NONE", Edges.NEW, x -> x.says(0, 24), Due.BEYOND);
    }

    private static void none() {
        Edges.refused("15: without a treaty", Edges.NEW, x -> x.says(9999, 0), Due.NONE);
        Edges.Calls fromTen = x -> Due.treaty(x, "l5;", 10);
        Edges.refused("15: the eve of the first", fromTen, x -> x.says(9, 0), Due.NONE);
        Edges.allowed("15: the day of the first", fromTen, x -> x.says(10, 0), 5);
        Edges.Calls fromLast = x -> Due.treaty(x, "l5;", 9999);
        Edges.refused("15: the eve of the last day", fromLast, x -> x.says(9998, 10), Due.NONE);
        Edges.allowed("15: the last day", fromLast, x -> x.says(9999, 0), 5);
        Edges.refused("15: of a text with a fault none comes", text("l5;l"), x -> x.says(9999, 0), Due.NONE);
    }

    private static void atFirst() {
        Edges.allowed("15: the limit at first", text(""), x -> x.says(0, 0), 99);
        for (int fault = 0; fault <= 9; fault++) {
            int what = 10 + fault;
            Edges.allowed("15: a weight at first", text(""), x -> x.says(0, what), 1);
        }
        for (int kind = 0; kind <= 3; kind++) {
            int what = 20 + kind;
            Edges.allowed("15: nothing is grave at first", text(""), x -> x.says(0, what), 0);
        }
    }

    private static void leastAndMost() {
        String[] limits = {"l0;", "l00;", "l9;", "l09;", "l10;", "l90;", "l99;"};
        int[] want = {0, 0, 9, 9, 10, 90, 99};
        for (int i = 0; i < limits.length; i++) {
            Edges.allowed("15: " + limits[i], text(limits[i]), x -> x.says(0, 0), want[i]);
        }
        Edges.allowed("15: the least weight of the first fault", text("w00;"), x -> x.says(0, 10), 0);
        Edges.allowed("15: the most weight of the first fault", text("w09;"), x -> x.says(0, 10), 9);
        Edges.allowed("15: the least weight of the last fault", text("w90;"), x -> x.says(0, 19), 0);
        Edges.allowed("15: the most weight of the last fault", text("w99;"), x -> x.says(0, 19), 9);
        Edges.allowed("15: the next one's weight stays", text("w99;"), x -> x.says(0, 18), 1);
    }

    private static void lastRow() {
        Edges.allowed("15: the last of several limits", text("l3;l9;l4;"), x -> x.says(0, 0), 4);
        Edges.allowed("15: the last of several weights", text("w13;w19;w14;"), x -> x.says(0, 11), 4);
        Edges.allowed("15: back to the first limit", text("l3;l99;"), x -> x.says(0, 0), 99);
        Edges.allowed("15: one treaty has nothing of another", x -> {
            Due.treaty(x, "l3;w19;g0s;", 0);
            Due.treaty(x, "g1s;", 0);
        }, x -> x.says(0, 0) + x.says(0, 11) + x.says(0, 20), 99 + 1 + 2);
    }

    private static void graveForKinds() {
        String letters = "stgf";
        int[][] want = {{1, 1, 1, 1}, {0, 1, 1, 0}, {0, 0, 1, 0}, {0, 0, 0, 1}};
        for (int i = 0; i < letters.length(); i++) {
            for (int kind = 0; kind <= 3; kind++) {
                int what = 20 + kind;
                char letter = letters.charAt(i);
                Edges.allowed("15: the first fault, " + letter, text("g0" + letter + ";"), x -> x.says(0, what),
                    want[i][kind]);
                Edges.allowed("15: the last fault, " + letter, text("g9" + letter + ";"), x -> x.says(0, what),
                    512 * want[i][kind]);
            }
        }
        Edges.allowed("15: all ten", text("g0s;g1s;g2s;g3s;g4s;g5s;g6s;g7s;g8s;g9s;"), x -> x.says(0, 20), 1023);
        Edges.allowed("15: one told twice", text("g3s;g3s;"), x -> x.says(0, 20), 8);
    }

    private static void inForce() {
        Edges.Calls two = x -> {
            Due.treaty(x, "l1;", 200);
            Due.treaty(x, "l2;", 100);
        };
        Edges.refused("15: ahead of both", two, x -> x.says(99, 0), Due.NONE);
        Edges.allowed("15: the first day of the second", two, x -> x.says(100, 0), 2);
        Edges.allowed("15: told last, though from an earlier day", two, x -> x.says(200, 0), 2);
        Edges.Calls rising = x -> {
            for (int i = 1; i <= 6; i++) {
                Due.treaty(x, "l" + i + ";", 10 * i);
            }
        };
        for (int i = 1; i <= 6; i++) {
            int its = i;
            Edges.allowed("15: the day of treaty " + i, rising, x -> x.says(10 * its, 0), i);
            Edges.allowed("15: the eve of the next", rising, x -> x.says(10 * its + 9, 0), i);
        }
        Edges.Calls oneDay = x -> {
            Due.treaty(x, "l1;", 5);
            Due.treaty(x, "l2;", 5);
        };
        Edges.allowed("15: told last of one day", oneDay, x -> x.says(5, 0), 2);
    }
}
