/**
 * Ships looked at in port: who they are, who owns them, which looks hold them by which treaty,
 * how risky they are, and what follows from that. DOC.md has the promises, by number.
 */
public final class PortLook {
    private static final int LOW = -1000000;
    private static final int BEYOND = 1;
    private static final int NONE = 2;
    private static final int STATE = 3;
    private static final int FULL = 4;
    private static final int KIND = 5;

    private static final int MOST_SHIPS = 16;
    private static final int MOST_CHANGES = 60;
    private static final int MOST_WORDS = 12;
    private static final int MOST_CALLS = 50;
    private static final int MOST_LOOKS = 60;
    private static final int MOST_TREATIES = 6;
    private static final int MOST_BYTES = 60;
    private static final int MOST_WAITING = 16;

    private static final int DAYS = 10000;
    private static final int NAMES = 100;
    private static final int FLAGS = 6;
    private static final int OWNERS = 10;
    private static final int CLASSES = 4;
    private static final int PORTS = 5;
    private static final int INSPECTORS = 6;
    private static final int FAULTS = 10;
    private static final int FAULT_SETS = 1024;

    private static final int KINDS = 4;
    private static final int TANKER = 1;
    /** The kind above each kind; -1 above the topmost one. */
    private static final int[] ABOVE = {-1, 0, 1, 0};
    private static final int[] LOOK_HOURS = {3, 5, 7, 4};

    private static final int NAME = 0;
    private static final int FLAG = 1;
    private static final int OWNER = 2;
    private static final int TRAITS = 3;

    private static final int OF_FLAG = 0;
    private static final int OF_CLASS = 1;
    private static final int OF_ALL = 2;

    private static final int YEAR = 365;
    private static final int MONTH = 30;
    private static final int SHARE_DAYS = 1095;
    private static final int OLD_YEARS = 15;
    private static final int MOST_FLEET_RISK = 4;
    private static final int MOST_YEARS_RISK = 5;

    private static final int MOST_MONTHS = 99;
    private static final int HOLDS_TO_BAN = 3;
    private static final int BAN_DAYS = 90;

    private static final int MOST_BOARDED = 8;
    private static final int MOST_INSPECTOR_HOURS = 24;

    private static final int DAY_HOURS = 24;
    private static final int DAY_SETS = 1 << DAY_HOURS;
    private static final int WEEK_DAYS = 7;
    private static final int LEAST_DAY_REST = 10;
    private static final int LEAST_WEEK_REST = 77;

    private final Ship[] ships = new Ship[MOST_SHIPS];
    private int shipCount;
    private int changeCount;
    private final Owners owners = new Owners();
    private final Call[] calls = new Call[MOST_CALLS];
    private int callCount;
    private final Look[] looks = new Look[MOST_LOOKS];
    private int lookCount;
    private final Treaty[] treaties = new Treaty[MOST_TREATIES];
    private int treatyCount;
    private final Tape tape = new Tape();
    private int today;
    private int banMonths = 36;
    private int drawnCount;
    private final int[] waiting = new int[MOST_WAITING];
    private int waitingCount;
    private final int[] findings = new int[KIND + 1];
    private final Tally tally = new Tally();
    private final Boarding boarding = new Boarding();

    public PortLook() {
    }

    // ---- ships

    public int ship(int of, int as, int built) {
        if (!isKindAndClass(of) || !isNameOwnerAndFlag(as) || built < 0 || built > today) {
            return finding(BEYOND);
        }
        if (shipCount >= MOST_SHIPS) {
            return finding(FULL);
        }
        ships[shipCount] = new Ship(shipCount, of, as, built);
        shipCount++;
        return shipCount - 1;
    }

    public int as(int ship, int kind) {
        Ship s = shipAt(ship);
        if (s == null || !isBelow(kind, KINDS)) {
            return finding(BEYOND);
        }
        if (!isUnder(s.kind, kind)) {
            return finding(KIND);
        }
        return LOOK_HOURS[s.kind];
    }

    public int change(int ship, int what, int v) {
        Ship s = shipAt(ship);
        if (s == null || !isBelow(what, TRAITS) || !isBelow(v, valuesOf(what))) {
            return finding(BEYOND);
        }
        if (changeCount >= MOST_CHANGES) {
            return finding(FULL);
        }
        int was = s.traitOn(what, today);
        s.setTrait(what, today, v);
        changeCount++;
        return was;
    }

    public int has(int ship, int what, int day) {
        Ship s = shipAt(ship);
        if (s == null || !isBelow(what, TRAITS) || !isBelow(day, DAYS)) {
            return finding(BEYOND);
        }
        return s.traitOn(what, day);
    }

    public int named(int name, int day) {
        if (!isBelow(name, NAMES) || !isBelow(day, DAYS)) {
            return finding(BEYOND);
        }
        for (int i = 0; i < shipCount; i++) {
            if (ships[i].traitOn(NAME, day) == name) {
                return i;
            }
        }
        return finding(NONE);
    }

    public int one(int a, int b) {
        if (!isBelow(a, OWNERS) || !isBelow(b, OWNERS) || a == b) {
            return finding(BEYOND);
        }
        if (owners.words >= MOST_WORDS) {
            return finding(FULL);
        }
        owners.join(a, b);
        return owners.words;
    }

    public int fleet(int owner, int day) {
        if (!isBelow(owner, OWNERS) || !isBelow(day, DAYS)) {
            return finding(BEYOND);
        }
        return fleetBits(owner, day);
    }

    public int day(int day) {
        if (!isBelow(day, DAYS) || day < today) {
            return finding(BEYOND);
        }
        int passed = day - today;
        today = day;
        return passed;
    }

    // ---- calls, treaties, looks

    public int call(int ship, int port) {
        Ship s = shipAt(ship);
        if (s == null || !isBelow(port, PORTS)) {
            return finding(BEYOND);
        }
        if (s.berth != null || s.isBanned()) {
            return finding(STATE);
        }
        if (callCount >= MOST_CALLS) {
            return finding(FULL);
        }
        Call c = new Call(callCount, s, port, today);
        s.berth = c;
        calls[callCount] = c;
        callCount++;
        return c.number;
    }

    public int leave(int call) {
        Call c = callAt(call);
        if (c == null) {
            return finding(BEYOND);
        }
        if (c.isOver() || c.held) {
            return finding(STATE);
        }
        c.overOn = today;
        c.ship.berth = null;
        return 1;
    }

    public int of(int call, int what) {
        Call c = callAt(call);
        if (c == null) {
            return finding(BEYOND);
        }
        switch (what) {
            case 0:
                return c.ship.number;
            case 1:
                return c.port;
            case 2:
                return c.from;
            case 3:
                return c.overOn;
            case 4:
                return c.held ? 1 : 0;
            case 5:
                return c.looksAtIt;
            default:
                return finding(BEYOND);
        }
    }

    public int feed(int b) {
        if (!isBelow(b, 256)) {
            return finding(BEYOND);
        }
        if (tape.length >= MOST_BYTES) {
            return finding(FULL);
        }
        tape.put(b);
        return tape.length;
    }

    public int treaty(int day) {
        if (!isBelow(day, DAYS)) {
            return finding(BEYOND);
        }
        if (treatyCount >= MOST_TREATIES) {
            return finding(FULL);
        }
        Treaty t = new Treaty(day);
        boolean whole = tape.readInto(t);
        tape.length = 0;
        if (!whole) {
            return -10 - tape.at;
        }
        treaties[treatyCount] = t;
        treatyCount++;
        return treatyCount;
    }

    public int says(int day, int what) {
        boolean ofWeight = what >= 10 && what < 10 + FAULTS;
        boolean ofGrave = what >= 20 && what < 20 + KINDS;
        if (!isBelow(day, DAYS) || !(what == 0 || ofWeight || ofGrave)) {
            return finding(BEYOND);
        }
        Treaty t = treatyInForce(day);
        if (t == null) {
            return finding(NONE);
        }
        if (ofWeight) {
            return t.weights[what - 10];
        }
        return ofGrave ? t.grave[what - 20] : t.limit;
    }

    public int look(int call, int inspector, int faults) {
        Call c = callAt(call);
        if (c == null || !isBelow(inspector, INSPECTORS) || !isBelow(faults, FAULT_SETS)) {
            return finding(BEYOND);
        }
        if (c.isOver()) {
            return finding(STATE);
        }
        if (lookCount >= MOST_LOOKS) {
            return finding(FULL);
        }
        Treaty t = treatyInForce(today);
        boolean holds = t != null && t.holdsFor(c.ship.kind, faults);
        looks[lookCount] = new Look(c, inspector, today, faults, holds);
        lookCount++;
        c.looksAtIt++;
        c.held = holds;
        c.ship.lastLook = today;
        // The look counts in its own ban's share and holds, so it is kept ahead of this.
        if (holds) {
            banIfDue(c.ship);
        }
        return lookCount - 1;
    }

    public int told(int look, int what) {
        Look l = lookAt(look);
        if (l == null) {
            return finding(BEYOND);
        }
        switch (what) {
            case 0:
                return l.call.number;
            case 1:
                return l.inspector;
            case 2:
                return l.madeOn;
            case 3:
                return l.faults;
            case 4:
                return l.holds ? 1 : 0;
            default:
                return finding(BEYOND);
        }
    }

    // ---- shares, risk, boarding

    public int share(int of, int k, int what) {
        if (!isBelow(of, OF_ALL + 1) || !isBelow(k, groupsOf(of)) || !isBelow(what, 3)) {
            return finding(BEYOND);
        }
        tallyUp(of, k);
        if (what == 0) {
            return tally.looks;
        }
        if (what == 1) {
            return tally.holds;
        }
        return tally.isDark() ? 1 : 0;
    }

    public int risk(int ship) {
        Ship s = shipAt(ship);
        return s == null ? finding(BEYOND) : riskOf(s);
    }

    public int board(int port, int hours, int what) {
        if (!isBelow(port, PORTS) || !areHours(hours) || what < -1 || what >= shipCount) {
            return finding(BEYOND);
        }
        gatherBoarding(port);
        int place = boarding.placeOf(what);
        if (what >= 0 && place < 0) {
            return finding(NONE);
        }
        boarding.settle(hours / 100, hours % 100);
        return place < 0 ? boarding.bestRisk : boarding.best[place];
    }

    // ---- rest, bans

    public int rest(int ship, int bits) {
        Ship s = shipAt(ship);
        if (s == null || !isBelow(bits, DAY_SETS)) {
            return finding(BEYOND);
        }
        s.week.putDay(bits);
        return s.week.hoursOfRest();
    }

    public int tired(int ship, int what) {
        Ship s = shipAt(ship);
        if (s == null || !isBelow(what, 3)) {
            return finding(BEYOND);
        }
        if (what == 2) {
            return s.week.hoursOfRest();
        }
        if (what == 1) {
            return s.week.hoursOfRest() < LEAST_WEEK_REST ? 1 : 0;
        }
        int hour = s.week.firstWrong();
        return hour < 0 ? finding(NONE) : hour;
    }

    public int months(int n) {
        if (n < 1 || n > MOST_MONTHS) {
            return finding(BEYOND);
        }
        int was = banMonths;
        banMonths = n;
        return was;
    }

    public int banned(int ship, int what) {
        Ship s = shipAt(ship);
        if (s == null || !isBelow(what, 3)) {
            return finding(BEYOND);
        }
        if (what == 0) {
            return s.isBanned() ? 1 : 0;
        }
        if (what == 1) {
            return s.bans;
        }
        return s.isBanned() ? s.bannedSince : finding(NONE);
    }

    public int lift(int ship) {
        Ship s = shipAt(ship);
        if (s == null) {
            return finding(BEYOND);
        }
        if (!s.isBanned() || s.berth != null || today - s.bannedSince < BAN_DAYS * s.bans) {
            return finding(STATE);
        }
        s.bannedSince = -1;
        return 1;
    }

    // ---- doubles, draws

    public int were(int one, int other) {
        Look a = lookAt(one);
        Look b = lookAt(other);
        if (a == null || b == null) {
            return finding(BEYOND);
        }
        if (!a.isDoubleOf(b)) {
            return finding(STATE);
        }
        int common = Integer.bitCount(a.faults & b.faults);
        if (common == 0) {
            return finding(NONE);
        }
        return Integer.bitCount(a.faults) * Integer.bitCount(b.faults) / common;
    }

    public int habit(int inspector) {
        if (!isBelow(inspector, INSPECTORS)) {
            return finding(BEYOND);
        }
        int foundByBoth = 0;
        int foundByOthers = 0;
        for (int i = 0; i < lookCount; i++) {
            Look own = looks[i];
            if (own.inspector != inspector) {
                continue;
            }
            for (int j = 0; j < lookCount; j++) {
                Look other = looks[j];
                if (own.isDoubleOf(other)) {
                    foundByBoth += Integer.bitCount(own.faults & other.faults);
                    foundByOthers += Integer.bitCount(other.faults);
                }
            }
        }
        return foundByOthers == 0 ? finding(NONE) : 100 * foundByBoth / foundByOthers;
    }

    public int draw(int look, int chance) {
        Look l = lookAt(look);
        if (l == null || chance < 1 || chance > 100) {
            return finding(BEYOND);
        }
        if (l.isDrawn()) {
            return finding(STATE);
        }
        l.chance = chance;
        drawnCount++;
        return drawnCount;
    }

    public int rate() {
        int ofHolds = 0;
        int ofAll = 0;
        for (int i = 0; i < lookCount; i++) {
            Look l = looks[i];
            if (l.isDrawn()) {
                int standsFor = 10000 / l.chance;
                ofAll += standsFor;
                ofHolds += l.holds ? standsFor : 0;
            }
        }
        return ofAll == 0 ? finding(NONE) : ofHolds * 1000 / ofAll;
    }

    // ---- what is told

    public int tell(int v) {
        if (waitingCount >= MOST_WAITING) {
            return finding(FULL);
        }
        waiting[waitingCount] = v;
        waitingCount++;
        return waitingCount;
    }

    public int check() {
        int waited = waitingCount;
        waitingCount = 0;
        for (int i = 0; i < waited; i++) {
            Ship s = shipAt(i);
            if (s == null || riskOf(s) != waiting[i]) {
                return 1 + i;
            }
        }
        return 0;
    }

    public int count(int what) {
        switch (what) {
            case 0:
                return shipCount;
            case 1:
                return changeCount;
            case 2:
                return callCount;
            case 3:
                return lookCount;
            case 4:
                return treatyCount;
            case 5:
                return tape.length;
            case 6:
                return today;
            case 7:
                return drawnCount;
            case 8:
                return shipsInPorts();
            case 9:
                return heldCalls();
            case 10:
                return bannedShips();
            case 11:
                return waitingCount;
            default:
                return finding(BEYOND);
        }
    }

    public int found(int k) {
        if (k < BEYOND || k > KIND) {
            return finding(BEYOND);
        }
        return findings[k];
    }

    // ---- findings and what numbers may be

    private int finding(int k) {
        findings[k]++;
        return LOW - k;
    }

    private static boolean isBelow(int n, int end) {
        return n >= 0 && n < end;
    }

    private static boolean isKindAndClass(int of) {
        return isBelow(of, 10 * KINDS) && of % 10 < CLASSES;
    }

    private static boolean isNameOwnerAndFlag(int as) {
        return isBelow(as, 100 * NAMES) && as % 10 < FLAGS;
    }

    private static boolean areHours(int hours) {
        return hours >= 0 && hours / 100 <= MOST_INSPECTOR_HOURS && hours % 100 <= MOST_INSPECTOR_HOURS;
    }

    private static int valuesOf(int what) {
        if (what == NAME) {
            return NAMES;
        }
        return what == FLAG ? FLAGS : OWNERS;
    }

    private static int groupsOf(int of) {
        if (of == OF_FLAG) {
            return FLAGS;
        }
        return of == OF_CLASS ? CLASSES : 1;
    }

    private static boolean isUnder(int kind, int top) {
        int k = kind;
        for (int up = 0; up < KINDS && isBelow(k, KINDS); up++) {
            if (k == top) {
                return true;
            }
            k = ABOVE[k];
        }
        return false;
    }

    private Ship shipAt(int i) {
        return isBelow(i, shipCount) ? ships[i] : null;
    }

    private Call callAt(int i) {
        return isBelow(i, callCount) ? calls[i] : null;
    }

    private Look lookAt(int i) {
        return isBelow(i, lookCount) ? looks[i] : null;
    }

    // ---- what the calls ask of the whole

    private Treaty treatyInForce(int day) {
        for (int i = treatyCount - 1; i >= 0; i--) {
            if (treaties[i].from <= day) {
                return treaties[i];
            }
        }
        return null;
    }

    private int fleetBits(int owner, int day) {
        int bits = 0;
        for (int i = 0; i < shipCount; i++) {
            if (owners.areOne(owner, ships[i].traitOn(OWNER, day))) {
                bits |= 1 << i;
            }
        }
        return bits;
    }

    /** The last n days have the DAY as their last one. */
    private boolean isInLast(int n, int day) {
        return today - day < n;
    }

    private void tallyUp(int of, int k) {
        tally.clear();
        for (int i = 0; i < lookCount; i++) {
            Look l = looks[i];
            if (isInLast(SHARE_DAYS, l.madeOn)) {
                tally.add(isOfGroup(l, of, k), l.holds);
            }
        }
    }

    private static boolean isOfGroup(Look l, int of, int k) {
        Ship s = l.call.ship;
        if (of == OF_FLAG) {
            return s.traitOn(FLAG, l.madeOn) == k;
        }
        return of == OF_ALL || s.society == k;
    }

    private boolean isDarkGroup(int of, int k) {
        tallyUp(of, k);
        return tally.isDark();
    }

    private int riskOf(Ship s) {
        int sum = 1;
        if (today - s.built >= OLD_YEARS * YEAR) {
            sum += 2;
        }
        if (isDarkGroup(OF_FLAG, s.traitOn(FLAG, today))) {
            sum += 3;
        }
        if (isDarkGroup(OF_CLASS, s.society)) {
            sum += 2;
        }
        sum += Math.min(MOST_FLEET_RISK, holdsInFleet(s));
        int since = s.lastLook >= 0 ? s.lastLook : s.built;
        sum += Math.min(MOST_YEARS_RISK, (today - since) / YEAR);
        return isUnder(s.kind, TANKER) ? 2 * sum : sum;
    }

    private int holdsInFleet(Ship s) {
        int fleetNow = fleetBits(s.traitOn(OWNER, today), today);
        int sum = 0;
        for (int i = 0; i < lookCount; i++) {
            Look l = looks[i];
            Ship other = l.call.ship;
            boolean counts = l.holds && isInLast(YEAR, l.madeOn) && other != s;
            if (counts && (fleetNow >> other.number & 1) == 1) {
                sum++;
            }
        }
        return sum;
    }

    private void gatherBoarding(int port) {
        boarding.size = 0;
        for (int i = 0; i < shipCount && boarding.size < MOST_BOARDED; i++) {
            Ship s = ships[i];
            if (s.berth != null && s.berth.port == port) {
                boarding.add(i, LOOK_HOURS[s.kind], riskOf(s));
            }
        }
    }

    private void banIfDue(Ship s) {
        if (s.isBanned()) {
            return;
        }
        boolean dark = isDarkGroup(OF_FLAG, s.traitOn(FLAG, today));
        int span = dark ? banMonths * 2 / 3 : banMonths;
        int holds = 0;
        for (int i = 0; i < lookCount; i++) {
            Look l = looks[i];
            if (l.holds && l.call.ship == s && isInLast(span * MONTH, l.madeOn)) {
                holds++;
            }
        }
        if (holds >= HOLDS_TO_BAN) {
            s.bannedSince = today;
            s.bans++;
        }
    }

    private int shipsInPorts() {
        int n = 0;
        for (int i = 0; i < shipCount; i++) {
            n += ships[i].berth != null ? 1 : 0;
        }
        return n;
    }

    private int heldCalls() {
        int n = 0;
        for (int i = 0; i < callCount; i++) {
            n += calls[i].held ? 1 : 0;
        }
        return n;
    }

    private int bannedShips() {
        int n = 0;
        for (int i = 0; i < shipCount; i++) {
            n += ships[i].isBanned() ? 1 : 0;
        }
        return n;
    }

    /** A name, flag or owner from a day on, and what was ahead of it. */
    private static final class Trait {
        final int from;
        final int value;
        final Trait ahead;

        Trait(int from, int value, Trait ahead) {
            this.from = from;
            this.value = value;
            this.ahead = ahead;
        }
    }

    private static final class Ship {
        final int number;
        final int kind;
        final int society;
        final int built;
        final Trait[] latest = new Trait[TRAITS];
        final RestWeek week = new RestWeek();
        /** The call that isn't over; null at sea. */
        Call berth;
        int lastLook = -1;
        int bannedSince = -1;
        int bans;

        Ship(int number, int of, int as, int built) {
            this.number = number;
            this.kind = of / 10;
            this.society = of % 10;
            this.built = built;
            // What it came with holds ahead of its coming too, hence from day 0 on.
            latest[NAME] = new Trait(0, as / 100, null);
            latest[OWNER] = new Trait(0, as / 10 % 10, null);
            latest[FLAG] = new Trait(0, as % 10, null);
        }

        int traitOn(int what, int day) {
            Trait t = latest[what];
            while (t.ahead != null && t.from > day) {
                t = t.ahead;
            }
            return t.value;
        }

        void setTrait(int what, int day, int value) {
            latest[what] = new Trait(day, value, latest[what]);
        }

        boolean isBanned() {
            return bannedSince >= 0;
        }
    }

    /** Hours of rest of the last seven days, a day a row of bits, the oldest day first. */
    private static final class RestWeek {
        final int[] days = new int[WEEK_DAYS];

        void putDay(int bits) {
            for (int i = 1; i < WEEK_DAYS; i++) {
                days[i - 1] = days[i];
            }
            days[WEEK_DAYS - 1] = bits;
        }

        int hoursOfRest() {
            int sum = 0;
            for (int i = 0; i < WEEK_DAYS; i++) {
                sum += Integer.bitCount(days[i]);
            }
            return sum;
        }

        int restIn(int hour) {
            return days[hour / DAY_HOURS] >> hour % DAY_HOURS & 1;
        }

        /** The first hour that closes a day with too little rest; -1 if none does. */
        int firstWrong() {
            int inDay = 0;
            for (int h = 0; h < WEEK_DAYS * DAY_HOURS; h++) {
                inDay += restIn(h);
                if (h >= DAY_HOURS) {
                    inDay -= restIn(h - DAY_HOURS);
                }
                if (h >= DAY_HOURS - 1 && inDay < LEAST_DAY_REST) {
                    return h;
                }
            }
            return -1;
        }
    }

    /** Owners bear the mark of their group; those of one group are one. */
    private static final class Owners {
        final int[] group = {0, 1, 2, 3, 4, 5, 6, 7, 8, 9};
        int words;

        void join(int a, int b) {
            int kept = group[a];
            int gone = group[b];
            for (int i = 0; i < OWNERS; i++) {
                if (group[i] == gone) {
                    group[i] = kept;
                }
            }
            words++;
        }

        boolean areOne(int a, int b) {
            return group[a] == group[b];
        }
    }

    private static final class Call {
        final int number;
        final Ship ship;
        final int port;
        final int from;
        int overOn = -1;
        boolean held;
        int looksAtIt;

        Call(int number, Ship ship, int port, int from) {
            this.number = number;
            this.ship = ship;
            this.port = port;
            this.from = from;
        }

        boolean isOver() {
            return overOn >= 0;
        }
    }

    private static final class Look {
        final Call call;
        final int inspector;
        final int madeOn;
        final int faults;
        final boolean holds;
        /** In hundredths; 0 while it isn't drawn. */
        int chance;

        Look(Call call, int inspector, int madeOn, int faults, boolean holds) {
            this.call = call;
            this.inspector = inspector;
            this.madeOn = madeOn;
            this.faults = faults;
            this.holds = holds;
        }

        boolean isDrawn() {
            return chance > 0;
        }

        boolean isDoubleOf(Look other) {
            return call == other.call && inspector != other.inspector;
        }
    }

    private static final class Treaty {
        final int from;
        final int[] weights = {1, 1, 1, 1, 1, 1, 1, 1, 1, 1};
        final int[] grave = new int[KINDS];
        int limit = 99;

        Treaty(int from) {
            this.from = from;
        }

        void addGrave(int fault, int top) {
            for (int k = 0; k < KINDS; k++) {
                if (isUnder(k, top)) {
                    grave[k] |= 1 << fault;
                }
            }
        }

        boolean holdsFor(int kind, int faults) {
            int weight = 0;
            for (int f = 0; f < FAULTS; f++) {
                weight += (faults >> f & 1) * weights[f];
            }
            return (grave[kind] & faults) != 0 || weight >= limit;
        }
    }

    /** The bytes of a treaty's text, and the place that reading them has come to. */
    private static final class Tape {
        final int[] bytes = new int[MOST_BYTES];
        int length;
        int at;

        void put(int b) {
            bytes[length] = b;
            length++;
        }

        /** Whether the text is one; if not, at is the place of its fault. */
        boolean readInto(Treaty t) {
            at = 0;
            boolean good = true;
            for (int rows = 0; rows < MOST_BYTES && good && at < length; rows++) {
                good = readRow(t);
            }
            return good;
        }

        boolean readRow(Treaty t) {
            if (take('g')) {
                return readGrave(t);
            }
            if (take('w')) {
                return readWeight(t);
            }
            return take('l') && readLimit(t);
        }

        boolean readGrave(Treaty t) {
            int fault = takeDigit();
            int top = fault < 0 ? -1 : takeKind();
            if (top < 0 || !take(';')) {
                return false;
            }
            t.addGrave(fault, top);
            return true;
        }

        boolean readWeight(Treaty t) {
            int fault = takeDigit();
            int weight = fault < 0 ? -1 : takeDigit();
            if (weight < 0 || !take(';')) {
                return false;
            }
            t.weights[fault] = weight;
            return true;
        }

        boolean readLimit(Treaty t) {
            int limit = takeDigit();
            if (limit < 0) {
                return false;
            }
            int unit = takeDigit();
            if (unit >= 0) {
                limit = 10 * limit + unit;
            }
            if (!take(';')) {
                return false;
            }
            t.limit = limit;
            return true;
        }

        boolean take(int b) {
            if (at >= length || bytes[at] != b) {
                return false;
            }
            at++;
            return true;
        }

        /** The digit that is next; -1, and nothing is taken, if none is. */
        int takeDigit() {
            if (at >= length || bytes[at] < '0' || bytes[at] > '9') {
                return -1;
            }
            at++;
            return bytes[at - 1] - '0';
        }

        /** The topmost kind of the letter that is next; -1 if it isn't one. */
        int takeKind() {
            if (take('s')) {
                return 0;
            }
            if (take('t')) {
                return TANKER;
            }
            if (take('g')) {
                return 2;
            }
            return take('f') ? 3 : -1;
        }
    }

    /** Looks and holds of a flag or a class beside those of all ships. */
    private static final class Tally {
        int looks;
        int holds;
        int allLooks;
        int allHolds;

        void clear() {
            looks = 0;
            holds = 0;
            allLooks = 0;
            allHolds = 0;
        }

        void add(boolean ofGroup, boolean held) {
            allLooks++;
            allHolds += held ? 1 : 0;
            looks += ofGroup ? 1 : 0;
            holds += ofGroup && held ? 1 : 0;
        }

        boolean isDark() {
            int above = holds * allLooks - looks * allHolds;
            return above > 0 && above * above > 4 * looks * allLooks * allHolds;
        }
    }

    /** The ships that two inspectors may board, and the best way to part them. */
    private static final class Boarding {
        final int[] numbers = new int[MOST_BOARDED];
        final int[] hours = new int[MOST_BOARDED];
        final int[] risks = new int[MOST_BOARDED];
        final int[] tried = new int[MOST_BOARDED];
        final int[] best = new int[MOST_BOARDED];
        int size;
        int bestRisk;

        void add(int number, int itsHours, int itsRisk) {
            numbers[size] = number;
            hours[size] = itsHours;
            risks[size] = itsRisk;
            size++;
        }

        int placeOf(int number) {
            for (int i = 0; i < size; i++) {
                if (numbers[i] == number) {
                    return i;
                }
            }
            return -1;
        }

        void settle(int first, int second) {
            int all = 0;
            for (int i = 0; i < size; i++) {
                all += risks[i];
            }
            bestRisk = -1;
            attempt(0, first, second, 0, all);
        }

        /**
         * Ways are tried in the order in which the document likes them, so a later one must be
         * better, and a branch that can't be (with all the risk still left) is cut.
         */
        private void attempt(int k, int first, int second, int got, int left) {
            if (got + left <= bestRisk) {
                return;
            }
            if (k >= size) {
                bestRisk = got;
                System.arraycopy(tried, 0, best, 0, size);
                return;
            }
            int need = hours[k];
            int gain = risks[k];
            if (need <= first) {
                tried[k] = 1;
                attempt(k + 1, first - need, second, got + gain, left - gain);
            }
            if (need <= second) {
                tried[k] = 2;
                attempt(k + 1, first, second - need, got + gain, left - gain);
            }
            tried[k] = 0;
            attempt(k + 1, first, second, got, left - gain);
        }
    }
}
