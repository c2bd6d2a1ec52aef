import java.util.ArrayList;
import java.util.BitSet;
import java.util.List;
import java.util.regex.Matcher;
import java.util.regex.Pattern;

/**
 * The document once more, as slow and plain as can be: everything told is kept in lists, and every
 * answer is worked out from them anew.
 */
final class Model {
    private static final Pattern ROW = Pattern.compile("g([0-9])([stgf]);|w([0-9])([0-9]);|l([0-9][0-9]?);");
    private static final Pattern BEGINNING = Pattern.compile(
        "(g[0-9][stgf];|w[0-9][0-9];|l[0-9][0-9]?;)*(g|g[0-9]|g[0-9][stgf]|w|w[0-9]|w[0-9][0-9]|l|l[0-9]|l[0-9][0-9])?");
    private static final Pattern WHOLE = Pattern.compile("(g[0-9][stgf];|w[0-9][0-9];|l[0-9][0-9]?;)*");

    private record Ship(int kind, int society, int[] came, int built) {
    }

    private record Change(int ship, int what, int day, int v) {
    }

    private static final class Call {
        int ship;
        int port;
        int from;
        int over = -1;
    }

    private record Look(int call, int inspector, int day, int faults, boolean holds) {
    }

    private record Treaty(int from, String text) {
    }

    private record Ban(int ship, int since) {
    }

    private final List<Ship> ships = new ArrayList<>();
    private final List<Change> changes = new ArrayList<>();
    private final List<int[]> words = new ArrayList<>();
    private final List<Call> calls = new ArrayList<>();
    private final List<Look> looks = new ArrayList<>();
    private final List<Treaty> treaties = new ArrayList<>();
    private final List<Ban> bans = new ArrayList<>();
    private final List<Ban> lifted = new ArrayList<>();
    private final List<int[]> drawn = new ArrayList<>();
    private final List<int[]> restDays = new ArrayList<>();
    private final List<Integer> waiting = new ArrayList<>();
    private final List<Integer> told = new ArrayList<>();
    private StringBuilder tape = new StringBuilder();
    private int day;
    private int months = 36;

    /** The answer of the method of that number in the document, and the finding is kept. */
    int answer(int promise, int a, int b, int c) {
        int r = switch (promise) {
            case 2 -> ship(a, b, c);
            case 3 -> as(a, b);
            case 4 -> change(a, b, c);
            case 5 -> !isShip(a) || out(b, 0, 2) || noDay(c) ? Due.BEYOND : has(a, b, c);
            case 6 -> named(a, b);
            case 7 -> one(a, b);
            case 8 -> out(a, 0, 9) || noDay(b) ? Due.BEYOND : fleet(a, b);
            case 9 -> day(a);
            case 10 -> call(a, b);
            case 11 -> leave(a);
            case 12 -> of(a, b);
            case 13 -> feed(a);
            case 14 -> treaty(a);
            case 15 -> says(a, b);
            case 16 -> look(a, b, c);
            case 17 -> told(a, b);
            case 18 -> share(a, b, c);
            case 19 -> !isShip(a) ? Due.BEYOND : risk(a);
            case 20 -> board(a, b, c);
            case 21 -> rest(a, b);
            case 22 -> tired(a, b);
            case 23 -> months(a);
            case 24 -> banned(a, b);
            case 25 -> lift(a);
            case 26 -> were(a, b);
            case 27 -> habit(a);
            case 28 -> draw(a, b);
            case 29 -> rate();
            case 30 -> tell(a);
            case 31 -> check();
            case 32 -> count(a);
            default -> found(a);
        };
        if (r < -1000000) {
            told.add(r);
        }
        return r;
    }

    private static boolean out(int n, int least, int most) {
        return n < least || n > most;
    }

    private static boolean noDay(int d) {
        return out(d, 0, 9999);
    }

    private boolean isShip(int n) {
        return !out(n, 0, ships.size() - 1);
    }

    private int ship(int of, int as, int built) {
        if (out(of, 0, 33) || of % 10 > 3 || out(as, 0, 9999) || as % 10 > 5 || out(built, 0, day)) {
            return Due.BEYOND;
        }
        if (ships.size() == 16) {
            return Due.FULL;
        }
        ships.add(new Ship(of / 10, of % 10, new int[] {as / 100, as % 10, as / 10 % 10}, built));
        return ships.size() - 1;
    }

    private static boolean isUnder(int kind, int top) {
        return top == 0 || kind == top || kind == 2 && top == 1;
    }

    private static int hours(int kind) {
        return kind == 0 ? 3 : kind == 1 ? 5 : kind == 2 ? 7 : 4;
    }

    private int as(int ship, int kind) {
        if (!isShip(ship) || out(kind, 0, 3)) {
            return Due.BEYOND;
        }
        return isUnder(ships.get(ship).kind(), kind) ? hours(ships.get(ship).kind()) : Due.KIND;
    }

    private int change(int ship, int what, int v) {
        if (!isShip(ship) || out(what, 0, 2) || out(v, 0, what == 0 ? 99 : what == 1 ? 5 : 9)) {
            return Due.BEYOND;
        }
        if (changes.size() == 60) {
            return Due.FULL;
        }
        int was = has(ship, what, day);
        changes.add(new Change(ship, what, day, v));
        return was;
    }

    private int has(int ship, int what, int onDay) {
        int v = ships.get(ship).came()[what];
        for (Change c : changes) {
            if (c.ship() == ship && c.what() == what && c.day() <= onDay) {
                v = c.v();
            }
        }
        return v;
    }

    private int named(int name, int onDay) {
        if (out(name, 0, 99) || noDay(onDay)) {
            return Due.BEYOND;
        }
        for (int s = 0; s < ships.size(); s++) {
            if (has(s, 0, onDay) == name) {
                return s;
            }
        }
        return Due.NONE;
    }

    private int one(int a, int b) {
        if (out(a, 0, 9) || out(b, 0, 9) || a == b) {
            return Due.BEYOND;
        }
        if (words.size() == 12) {
            return Due.FULL;
        }
        words.add(new int[] {a, b});
        return words.size();
    }

    /** All owners that words lead to from one. */
    private BitSet ones(int owner) {
        BitSet set = new BitSet();
        set.set(owner);
        for (int again = 0; again < 12; again++) {
            for (int[] w : words) {
                if (set.get(w[0]) || set.get(w[1])) {
                    set.set(w[0]);
                    set.set(w[1]);
                }
            }
        }
        return set;
    }

    private int fleet(int owner, int onDay) {
        BitSet set = ones(owner);
        int bits = 0;
        for (int s = 0; s < ships.size(); s++) {
            bits += set.get(has(s, 2, onDay)) ? 1 << s : 0;
        }
        return bits;
    }

    private int day(int d) {
        if (noDay(d) || d < day) {
            return Due.BEYOND;
        }
        int passed = d - day;
        day = d;
        return passed;
    }

    private Call openCall(int ship) {
        for (Call c : calls) {
            if (c.ship == ship && c.over < 0) {
                return c;
            }
        }
        return null;
    }

    private int call(int ship, int port) {
        if (!isShip(ship) || out(port, 0, 4)) {
            return Due.BEYOND;
        }
        if (openCall(ship) != null || banOf(ship) != null) {
            return Due.STATE;
        }
        if (calls.size() == 50) {
            return Due.FULL;
        }
        Call c = new Call();
        c.ship = ship;
        c.port = port;
        c.from = day;
        calls.add(c);
        return calls.size() - 1;
    }

    private boolean isHeld(int call) {
        boolean held = false;
        for (Look l : looks) {
            held = l.call() == call ? l.holds() : held;
        }
        return held;
    }

    private int leave(int call) {
        if (out(call, 0, calls.size() - 1)) {
            return Due.BEYOND;
        }
        if (calls.get(call).over >= 0 || isHeld(call)) {
            return Due.STATE;
        }
        calls.get(call).over = day;
        return 1;
    }

    private int of(int call, int what) {
        if (out(call, 0, calls.size() - 1) || out(what, 0, 5)) {
            return Due.BEYOND;
        }
        Call c = calls.get(call);
        int at = (int) looks.stream().filter(l -> l.call() == call).count();
        return new int[] {c.ship, c.port, c.from, c.over, isHeld(call) ? 1 : 0, at}[what];
    }

    private int feed(int b) {
        if (out(b, 0, 255)) {
            return Due.BEYOND;
        }
        if (tape.length() == 60) {
            return Due.FULL;
        }
        tape.append((char) b);
        return tape.length();
    }

    private int treaty(int from) {
        if (noDay(from)) {
            return Due.BEYOND;
        }
        if (treaties.size() == 6) {
            return Due.FULL;
        }
        String text = tape.toString();
        tape = new StringBuilder();
        if (!WHOLE.matcher(text).matches()) {
            int longest = 0;
            for (int n = 1; n <= text.length(); n++) {
                longest = BEGINNING.matcher(text.substring(0, n)).matches() ? n : longest;
            }
            return -10 - longest;
        }
        treaties.add(new Treaty(from, text));
        return treaties.size();
    }

    private String textInForce(int onDay) {
        String text = null;
        for (Treaty t : treaties) {
            text = t.from() <= onDay ? t.text() : text;
        }
        return text;
    }

    /** What a text says: 0 the limit, 10 and k a weight, 20 and k what is grave for a kind. */
    private static int saysText(String text, int what) {
        int r = what == 0 ? 99 : what < 20 ? 1 : 0;
        Matcher m = ROW.matcher(text);
        while (m.find()) {
            if (m.group(1) != null && what >= 20 && isUnder(what - 20, "stgf".indexOf(m.group(2)))) {
                r |= 1 << Integer.parseInt(m.group(1));
            } else if (m.group(3) != null && what == 10 + Integer.parseInt(m.group(3))) {
                r = Integer.parseInt(m.group(4));
            } else if (m.group(5) != null && what == 0) {
                r = Integer.parseInt(m.group(5));
            }
        }
        return r;
    }

    private int says(int onDay, int what) {
        if (noDay(onDay) || what != 0 && out(what, 10, 23)) {
            return Due.BEYOND;
        }
        String text = textInForce(onDay);
        return text == null ? Due.NONE : saysText(text, what);
    }

    private boolean holdsNow(int kind, int faults) {
        String text = textInForce(day);
        if (text == null) {
            return false;
        }
        int weight = 0;
        for (int f = 0; f < 10; f++) {
            weight += (faults & 1 << f) != 0 ? saysText(text, 10 + f) : 0;
        }
        return (saysText(text, 20 + kind) & faults) != 0 || weight >= saysText(text, 0);
    }

    private int look(int call, int inspector, int faults) {
        if (out(call, 0, calls.size() - 1) || out(inspector, 0, 5) || out(faults, 0, 1023)) {
            return Due.BEYOND;
        }
        if (calls.get(call).over >= 0) {
            return Due.STATE;
        }
        if (looks.size() == 60) {
            return Due.FULL;
        }
        int ship = calls.get(call).ship;
        looks.add(new Look(call, inspector, day, faults, holdsNow(ships.get(ship).kind(), faults)));
        if (looks.get(looks.size() - 1).holds() && banOf(ship) == null && isThird(ship)) {
            bans.add(new Ban(ship, day));
        }
        return looks.size() - 1;
    }

    private boolean isThird(int ship) {
        int span = share(0, has(ship, 1, day), 2) == 1 ? 2 * months / 3 : months;
        return looks.stream().filter(l -> l.holds() && shipOf(l) == ship && l.day() > day - 30 * span).count() >= 3;
    }

    private int shipOf(Look l) {
        return calls.get(l.call()).ship;
    }

    private Ban banOf(int ship) {
        for (Ban b : bans) {
            if (b.ship() == ship && !lifted.contains(b)) {
                return b;
            }
        }
        return null;
    }

    private int told(int look, int what) {
        if (out(look, 0, looks.size() - 1) || out(what, 0, 4)) {
            return Due.BEYOND;
        }
        Look l = looks.get(look);
        return new int[] {l.call(), l.inspector(), l.day(), l.faults(), l.holds() ? 1 : 0}[what];
    }

    private int share(int of, int k, int what) {
        if (out(of, 0, 2) || out(k, 0, of == 0 ? 5 : of == 1 ? 3 : 0) || out(what, 0, 2)) {
            return Due.BEYOND;
        }
        long n = 0;
        long h = 0;
        long allN = 0;
        long allH = 0;
        for (Look l : looks) {
            if (l.day() <= day - 1095) {
                continue;
            }
            allN++;
            allH += l.holds() ? 1 : 0;
            int its = of == 0 ? has(shipOf(l), 1, l.day()) : of == 1 ? ships.get(shipOf(l)).society() : 0;
            if (its == k) {
                n++;
                h += l.holds() ? 1 : 0;
            }
        }
        long more = h * allN - n * allH;
        boolean dark = allH > 0 && more > 0 && more * more > 4 * n * allN * allH;
        return what == 0 ? (int) n : what == 1 ? (int) h : dark ? 1 : 0;
    }

    private int risk(int ship) {
        Ship s = ships.get(ship);
        int fleet = fleet(has(ship, 2, day), day);
        int holds = 0;
        int since = s.built();
        for (Look l : looks) {
            int other = shipOf(l);
            if (other == ship) {
                since = l.day();
            } else if ((fleet & 1 << other) != 0 && l.holds() && l.day() > day - 365) {
                holds++;
            }
        }
        int sum = 1 + Math.min(holds, 4) + Math.min((day - since) / 365, 5);
        sum += day >= s.built() + 15 * 365 ? 2 : 0;
        sum += 3 * share(0, has(ship, 1, day), 2) + 2 * share(1, s.society(), 2);
        return isUnder(s.kind(), 1) ? 2 * sum : sum;
    }

    private int board(int port, int hours, int what) {
        if (out(port, 0, 4) || out(hours, 0, 2424) || hours % 100 > 24 || out(what, -1, ships.size() - 1)) {
            return Due.BEYOND;
        }
        List<Integer> there = new ArrayList<>();
        for (int s = 0; s < ships.size() && there.size() < 8; s++) {
            Call c = openCall(s);
            if (c != null && c.port == port) {
                there.add(s);
            }
        }
        if (what >= 0 && !there.contains(what)) {
            return Due.NONE;
        }
        int n = there.size();
        int[] itsHours = new int[n];
        int[] itsRisk = new int[n];
        int ways = 1;
        for (int i = 0; i < n; i++) {
            itsHours[i] = hours(ships.get(there.get(i)).kind());
            itsRisk[i] = risk(there.get(i));
            ways *= 3;
        }
        int best = -1;
        int[] bestWay = null;
        for (int w = 0; w < ways; w++) {
            int[] way = new int[n];
            int rest = w;
            int[] used = new int[3];
            int sum = 0;
            for (int i = n - 1; i >= 0; i--) {
                way[i] = (rest % 3 + 1) % 3;
                rest /= 3;
                used[way[i]] += itsHours[i];
                sum += way[i] > 0 ? itsRisk[i] : 0;
            }
            if (used[1] <= hours / 100 && used[2] <= hours % 100 && sum > best) {
                best = sum;
                bestWay = way;
            }
        }
        return what < 0 ? best : bestWay[there.indexOf(what)];
    }

    private boolean[] week(int ship) {
        List<Boolean> all = new ArrayList<>();
        for (int i = 0; i < 168; i++) {
            all.add(false);
        }
        for (int[] d : restDays) {
            for (int h = 0; h < 24 && d[0] == ship; h++) {
                all.add((d[1] & 1 << h) != 0);
            }
        }
        boolean[] last = new boolean[168];
        for (int i = 0; i < 168; i++) {
            last[i] = all.get(all.size() - 168 + i);
        }
        return last;
    }

    private static int restOf(boolean[] week, int from, int to) {
        int sum = 0;
        for (int i = from; i <= to; i++) {
            sum += week[i] ? 1 : 0;
        }
        return sum;
    }

    private int rest(int ship, int bits) {
        if (!isShip(ship) || out(bits, 0, 16777215)) {
            return Due.BEYOND;
        }
        restDays.add(new int[] {ship, bits});
        return restOf(week(ship), 0, 167);
    }

    private int tired(int ship, int what) {
        if (!isShip(ship) || out(what, 0, 2)) {
            return Due.BEYOND;
        }
        boolean[] w = week(ship);
        int all = restOf(w, 0, 167);
        if (what > 0) {
            return what == 2 ? all : all < 77 ? 1 : 0;
        }
        for (int h = 23; h < 168; h++) {
            if (restOf(w, h - 23, h) < 10) {
                return h;
            }
        }
        return Due.NONE;
    }

    private int months(int n) {
        if (out(n, 1, 99)) {
            return Due.BEYOND;
        }
        int was = months;
        months = n;
        return was;
    }

    private int timesBanned(int ship) {
        return (int) bans.stream().filter(b -> b.ship() == ship).count();
    }

    private int banned(int ship, int what) {
        if (!isShip(ship) || out(what, 0, 2)) {
            return Due.BEYOND;
        }
        Ban b = banOf(ship);
        if (what == 1) {
            return timesBanned(ship);
        }
        return what == 0 ? b == null ? 0 : 1 : b == null ? Due.NONE : b.since();
    }

    private int lift(int ship) {
        if (!isShip(ship)) {
            return Due.BEYOND;
        }
        Ban b = banOf(ship);
        if (b == null || openCall(ship) != null || day < b.since() + 90 * timesBanned(ship)) {
            return Due.STATE;
        }
        lifted.add(b);
        return 1;
    }

    private static boolean areDoubles(Look a, Look b) {
        return a.call() == b.call() && a.inspector() != b.inspector();
    }

    private int were(int one, int other) {
        if (out(one, 0, looks.size() - 1) || out(other, 0, looks.size() - 1)) {
            return Due.BEYOND;
        }
        Look a = looks.get(one);
        Look b = looks.get(other);
        if (!areDoubles(a, b)) {
            return Due.STATE;
        }
        int both = Integer.bitCount(a.faults() & b.faults());
        return both == 0 ? Due.NONE : Integer.bitCount(a.faults()) * Integer.bitCount(b.faults()) / both;
    }

    private int habit(int inspector) {
        if (out(inspector, 0, 5)) {
            return Due.BEYOND;
        }
        int both = 0;
        int others = 0;
        for (Look a : looks) {
            for (Look b : looks) {
                if (a.inspector() == inspector && areDoubles(a, b)) {
                    both += Integer.bitCount(a.faults() & b.faults());
                    others += Integer.bitCount(b.faults());
                }
            }
        }
        return others == 0 ? Due.NONE : 100 * both / others;
    }

    private int draw(int look, int chance) {
        if (out(look, 0, looks.size() - 1) || out(chance, 1, 100)) {
            return Due.BEYOND;
        }
        for (int[] d : drawn) {
            if (d[0] == look) {
                return Due.STATE;
            }
        }
        drawn.add(new int[] {look, chance});
        return drawn.size();
    }

    private int rate() {
        long holds = 0;
        long all = 0;
        for (int[] d : drawn) {
            all += 10000 / d[1];
            holds += looks.get(d[0]).holds() ? 10000 / d[1] : 0;
        }
        return all == 0 ? Due.NONE : (int) (1000 * holds / all);
    }

    private int tell(int v) {
        if (waiting.size() == 16) {
            return Due.FULL;
        }
        waiting.add(v);
        return waiting.size();
    }

    private int check() {
        List<Integer> all = new ArrayList<>(waiting);
        waiting.clear();
        for (int i = 0; i < all.size(); i++) {
            if (!isShip(i) || risk(i) != all.get(i)) {
                return 1 + i;
            }
        }
        return 0;
    }

    private int count(int what) {
        int inPorts = 0;
        int held = 0;
        for (int c = 0; c < calls.size(); c++) {
            inPorts += calls.get(c).over < 0 ? 1 : 0;
            held += isHeld(c) ? 1 : 0;
        }
        int[] all = {ships.size(), changes.size(), calls.size(), looks.size(), treaties.size(), tape.length(), day,
            drawn.size(), inPorts, held, bans.size() - lifted.size(), waiting.size()};
        return out(what, 0, 11) ? Due.BEYOND : all[what];
    }

    private int found(int k) {
        return out(k, 1, 5) ? Due.BEYOND : (int) told.stream().filter(r -> r == -1000000 - k).count();
    }
}
