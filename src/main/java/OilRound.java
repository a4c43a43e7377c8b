/** An oil round: tanks, what may be in them, lorries, prices and leaks; see DOC.md. */
public final class OilRound {
    public static final int NONE = -1000000, BAD = -1000001, STATE = -1000002, FULL = -1000003, KIND = -1000004;

    private static final int MOST_HOUSES = 24;
    private static final int MOST_PLACE = 50;
    private static final int LEAST_TANK = 100;
    private static final int MOST_TANK = 5000;
    private static final int MOST_USE = 50;
    private static final int MOST_COLD = 40;
    private static final int MOST_DAYS = 20000;
    private static final int MOST_LOOKAHEAD = 10;
    private static final int MOST_LASTING = 500;
    private static final int NEVER_DRY = 1000;
    private static final int MOST_STOCK = 100000;
    private static final int LEAST_LORRY = 100;
    private static final int MOST_LORRY = 9000;
    private static final int MOST_STOPS = 8;
    private static final int MOST_PRICE = 1000;
    private static final int FAULT_ANSWER = -1000100;

    private static final int NOTHING = 0;
    private static final int LEAK = 1;
    private static final int LESS = 2;

    private static final int PLAIN = 0;
    private static final int KNOWN = 1;
    private static final int STEADY = 2;
    private static final int LEAKY = 3;

    private static final int BY_DAY = 0;
    private static final int BY_CAP = 1;
    private static final int BY_PAID = 2;

    private final House[] houses = new House[MOST_HOUSES];
    private final Route route = new Route();
    private final PlanText text = new PlanText();
    private final Asks asks = new Asks();
    private int houseCount = 0;
    private int daysGone = 0;
    private int lookDays = 3;
    private int lookCold = 20;
    private int lorryHolds = 3000;
    private int dayPrice = 100;
    private int inDepot = 0;
    private long litresCome = 0;
    private long litresFilled = 0;
    private long allPaid = 0;

    public OilRound() {
    }

    // ---- houses, days

    public int house(int x, int y, int holds) {
        if (isOutside(x, 0, MOST_PLACE) || isOutside(y, 0, MOST_PLACE)) return BAD;
        if (isOutside(holds, LEAST_TANK, MOST_TANK)) return BAD;
        if (houseCount < 0 || houseCount >= houses.length) return FULL;
        int number = houseCount;
        houses[number] = new House(x, y, holds);
        houseCount++;
        return number;
    }

    public int prior(int house, int a, int b, int c, int d) {
        House asked = houseAt(house);
        if (asked == null) return BAD;
        if (isOutside(a, 0, MOST_USE) || isOutside(b, 0, MOST_USE)) return BAD;
        if (isOutside(c, a, MOST_USE) || isOutside(d, b, MOST_USE)) return BAD;
        if (asked.fills > 0 || asked.daysSince > 0) return STATE;
        asked.a = a;
        asked.b = b;
        asked.c = c;
        asked.d = d;
        return 1;
    }

    public int day(int cold) {
        if (isOutside(cold, 0, MOST_COLD)) return BAD;
        if (daysGone >= MOST_DAYS) return STATE;
        daysGone++;
        int notSafe = 0;
        for (House each : houses) {
            if (each == null) continue;
            each.endDay(cold);
            if (!each.isSafe()) notSafe++;
        }
        return notSafe;
    }

    public int look(int days, int cold) {
        if (isOutside(days, 0, MOST_LOOKAHEAD) || isOutside(cold, 0, MOST_COLD)) return BAD;
        lookDays = days;
        lookCold = cold;
        return countDue();
    }

    public int told(int house, int what) {
        House asked = houseAt(house);
        if (asked == null) return BAD;
        switch (what) {
            case 0: return asked.a;
            case 1: return asked.b;
            case 2: return asked.c;
            case 3: return asked.d;
            case 4: return asked.up;
            case 5: return asked.down;
            case 6: return asked.isDue(lookDays, lookCold) ? 1 : 0;
            case 7: return asked.fills;
            case 8: return asked.note;
            case 9: return asked.daysSince;
            case 10: return asked.coldSince;
            default: return BAD;
        }
    }

    public int lasts(int house, int cold) {
        House asked = houseAt(house);
        if (asked == null || isOutside(cold, 0, MOST_COLD)) return BAD;
        return asked.daysAboveZero(cold);
    }

    // ---- rounds

    public int stock(int q) {
        if (isOutside(q, 0, MOST_STOCK - inDepot)) return BAD;
        inDepot += q;
        litresCome += q;
        return inDepot;
    }

    public int lorry(int l) {
        if (isOutside(l, LEAST_LORRY, MOST_LORRY)) return BAD;
        int before = lorryHolds;
        lorryHolds = l;
        return before;
    }

    public int calls() {
        int met = 0;
        int taken = 0;
        int need = 0;
        for (int turn = 0; turn < MOST_HOUSES && Integer.bitCount(taken) < MOST_STOPS; turn++) {
            int number = mostUrgent(met);
            House next = houseAt(number);
            if (next == null) break;
            met |= 1 << number;
            if (need + next.mayNeed() > lorryHolds) continue;
            need += next.mayNeed();
            taken |= 1 << number;
        }
        return taken;
    }

    public int round(int set, int what) {
        if (isNoRound(set)) return BAD;
        int need = needOf(set);
        switch (what) {
            case 0:
                route.prepare(set, houses);
                return route.way();
            case 1: return need <= lorryHolds && need <= inDepot ? 1 : 0;
            case 2: return need;
            default: return BAD;
        }
    }

    public int stop(int set, int i) {
        if (isNoRound(set)) return BAD;
        route.prepare(set, houses);
        return route.houseOn(i);
    }

    public int fill(int house, int q) {
        House filled = houseAt(house);
        if (filled == null || isOutside(q, 0, filled.holds)) return BAD;
        if (inDepot < q) return STATE;
        int cost = filled.plan.costOf(q, dayPrice);
        filled.plan.useUp(q);
        filled.takeFill(q);
        inDepot -= q;
        litresFilled += q;
        allPaid += cost;
        return cost;
    }

    // ---- prices

    public int price(int v) {
        if (isOutside(v, 0, MOST_PRICE)) return BAD;
        int before = dayPrice;
        dayPrice = v;
        return before;
    }

    public int feed(long w, int n) {
        if (isOutside(n, 1, 8)) return BAD;
        return text.append(w, n);
    }

    public int plans() {
        return text.readAll(houses);
    }

    public int fault() {
        return text.latestFault;
    }

    public int quote(int house, int q) {
        House asked = houseAt(house);
        if (asked == null || isOutside(q, 0, MOST_TANK)) return BAD;
        return asked.plan.costOf(q, dayPrice);
    }

    // ---- asked

    public int kind(int house) {
        House asked = houseAt(house);
        return asked == null ? BAD : asked.toldKind();
    }

    public int as(int house, int kind) {
        House asked = houseAt(house);
        if (asked == null || isOutside(kind, PLAIN, LEAKY)) return BAD;
        return asked.isOf(kind) ? asked.holds : KIND;
    }

    public int ask(int house, int what) {
        House asked = houseAt(house);
        if (asked == null || isOutside(what, 0, 1)) return BAD;
        asks.emptyTrace();
        return what == 0 ? asks.weight(asked) : asks.mark(asked);
    }

    public int trace(int i) {
        return asks.traced(i);
    }

    public long count(int what) {
        switch (what) {
            case 0: return houseCount;
            case 1: return daysGone;
            case 2: return countDue();
            case 3: return inDepot;
            case 4: return litresCome;
            case 5: return litresFilled;
            case 6: return allPaid;
            case 7: return text.size;
            default: return BAD;
        }
    }

    // ---- what the calls share

    private static boolean isOutside(int value, int least, int most) {
        return value < least || value > most;
    }

    private static House houseIn(House[] row, int number) {
        return row == null || number < 0 || number >= row.length ? null : row[number];
    }

    private House houseAt(int number) {
        return houseIn(houses, number);
    }

    private int countDue() {
        int due = 0;
        for (House each : houses) {
            if (each != null && each.isDue(lookDays, lookCold)) due++;
        }
        return due;
    }

    /** The number of the DUE house, not in the set met, that can go the fewest days; NONE without one. */
    private int mostUrgent(int met) {
        int urgent = NONE;
        int fewest = 0;
        for (int number = 0; number < houses.length; number++) {
            House each = houses[number];
            if (each == null || (met >> number & 1) == 1 || !each.isDue(lookDays, lookCold)) continue;
            int days = each.daysToGo(lookCold);
            if (urgent != NONE && days >= fewest) continue;
            urgent = number;
            fewest = days;
        }
        return urgent;
    }

    private boolean isNoRound(int set) {
        return set <= 0 || set >> houseCount != 0 || Integer.bitCount(set) > MOST_STOPS;
    }

    private int needOf(int set) {
        int need = 0;
        for (int number = 0; number < houses.length; number++) {
            House each = houses[number];
            if (each != null && (set >> number & 1) == 1) need += each.mayNeed();
        }
        return need;
    }

    /** A house with its tank, its habit, and what went since its last fill. */
    private static final class House {
        private static final int KNOWN_FILLS = 3;

        final int x;
        final int y;
        final int holds;
        final Plan plan = new Plan();
        int a = 0;
        int b = 0;
        int c = MOST_USE;
        int d = MOST_USE;
        int up;
        int down;
        int fills = 0;
        int note = NOTHING;
        boolean everNoted = false;
        int daysSince = 0;
        int coldSince = 0;

        House(int x, int y, int holds) {
            this.x = x;
            this.y = y;
            this.holds = holds;
            this.up = holds;
            this.down = holds;
        }

        private int low(int cold) {
            return a + b * cold;
        }

        private int high(int cold) {
            return c + d * cold;
        }

        void endDay(int cold) {
            up = Math.max(0, up - low(cold));
            down = Math.max(0, down - high(cold));
            daysSince++;
            coldSince += cold;
        }

        boolean isSafe() {
            return down > 0;
        }

        boolean isDue(int days, int cold) {
            return down <= days * high(cold);
        }

        int daysToGo(int cold) {
            int use = high(cold);
            return use <= 0 ? NEVER_DRY : down / use;
        }

        int daysAboveZero(int cold) {
            if (down <= 0) return 0;
            int use = high(cold);
            // On the day that takes the last litre DOWN is no longer above 0.
            return use <= 0 ? MOST_LASTING : Math.min(MOST_LASTING, (down - 1) / use);
        }

        int mayNeed() {
            return holds - down;
        }

        void takeFill(int q) {
            note = noteOf(q);
            if (note != NOTHING) everNoted = true;
            // A fill of a whole tank may have come to a dry one: it tells nothing of the use.
            else if (q < holds && daysSince >= 1) narrow(q);
            fills++;
            up = holds;
            down = holds;
            daysSince = 0;
            coldSince = 0;
        }

        private int noteOf(int q) {
            if (q > daysSince * c + coldSince * d) return LEAK;
            return q < daysSince * a + coldSince * b && q < holds ? LESS : NOTHING;
        }

        /** Each number is made narrower by the others as they are then, so the order counts. */
        private void narrow(int q) {
            c = Math.max(a, Math.min(c, cut(q - coldSince * b, daysSince)));
            if (coldSince > 0) d = Math.max(b, Math.min(d, cut(q - daysSince * a, coldSince)));
            a = Math.min(c, Math.max(a, roundedUp(q - coldSince * d, daysSince)));
            if (coldSince > 0) b = Math.min(d, Math.max(b, roundedUp(q - daysSince * c, coldSince)));
        }

        private static int cut(int value, int by) {
            return by <= 0 ? 0 : value / by;
        }

        private static int roundedUp(int value, int by) {
            return by <= 0 ? 0 : -Math.floorDiv(-value, by);
        }

        boolean isOf(int kind) {
            switch (kind) {
                case PLAIN: return true;
                case KNOWN: return isKnown();
                case STEADY: return isSteady();
                case LEAKY: return isLeaky();
                default: return false;
            }
        }

        int toldKind() {
            if (isLeaky()) return LEAKY;
            if (isSteady()) return STEADY;
            return isKnown() ? KNOWN : PLAIN;
        }

        private boolean isLeaky() {
            return note == LEAK;
        }

        private boolean isSteady() {
            return isKnown() && b == 0 && d == 0;
        }

        private boolean isKnown() {
            return fills >= KNOWN_FILLS && !everNoted;
        }
    }

    /** How a house pays for a litre. */
    private static final class Plan {
        private int way = BY_DAY;
        private int litres = 0;
        private int ownPrice = 0;

        void become(int newWay, int newLitres, int newPrice) {
            way = newWay;
            litres = newLitres;
            ownPrice = newPrice;
        }

        int costOf(int q, int dayPrice) {
            switch (way) {
                case BY_CAP: return q * Math.min(dayPrice, ownPrice);
                case BY_PAID: return ahead(q) * ownPrice + (q - ahead(q)) * dayPrice;
                default: return q * dayPrice;
            }
        }

        void useUp(int q) {
            litres -= ahead(q);
        }

        private int ahead(int q) {
            return Math.min(q, litres);
        }
    }

    /** The shortest round by a set of houses; places never change, so the latest one is kept. */
    private static final class Route {
        private static final int DEPOT_SPOT = MOST_STOPS;
        private static final int SPOTS = MOST_STOPS + 1;
        private static final int DEPOT_PLACE = 25;
        private static final int TOO_FAR = 1000000;

        private final int[] numbers = new int[MOST_STOPS];
        private final int[] xs = new int[SPOTS];
        private final int[] ys = new int[SPOTS];
        private final int[] order = new int[MOST_STOPS];
        /** The least way from a spot by all of a part of the spots to the depot: at part * SPOTS + spot. */
        private final int[] least = new int[(1 << MOST_STOPS) * SPOTS];
        private int keptSet = 0;
        private int size = 0;

        int way() {
            return leastAt((1 << size) - 1, DEPOT_SPOT);
        }

        int houseOn(int i) {
            return i < 0 || i >= size || i >= order.length ? NONE : order[i];
        }

        void prepare(int set, House[] houses) {
            if (set == keptSet) return;
            keptSet = set;
            gather(set, houses);
            for (int part = 0; part < 1 << size; part++) {
                measure(part, DEPOT_SPOT);
                for (int spot = 0; spot < size; spot++) {
                    if ((part >> spot & 1) == 0) measure(part, spot);
                }
            }
            arrange();
        }

        private void gather(int set, House[] houses) {
            size = 0;
            for (int number = 0; number < MOST_HOUSES && size < numbers.length && size < DEPOT_SPOT; number++) {
                House each = houseIn(houses, number);
                if (each == null || (set >> number & 1) == 0) continue;
                numbers[size] = number;
                xs[size] = each.x;
                ys[size] = each.y;
                size++;
            }
            xs[DEPOT_SPOT] = DEPOT_PLACE;
            ys[DEPOT_SPOT] = DEPOT_PLACE;
        }

        private void measure(int part, int spot) {
            int index = part * SPOTS + spot;
            if (index < 0 || index >= least.length) return;
            int best = part == 0 ? between(spot, DEPOT_SPOT) : TOO_FAR;
            for (int next = 0; next < size; next++) {
                if ((part >> next & 1) == 1) best = Math.min(best, wayBy(part, spot, next));
            }
            least[index] = best;
        }

        /** Spots bear the order of the houses' numbers: the first that fits is the least number. */
        private void arrange() {
            int part = (1 << size) - 1;
            int spot = DEPOT_SPOT;
            for (int i = 0; i < size && i < order.length; i++) {
                int next = firstNext(part, spot);
                order[i] = next < 0 || next >= numbers.length ? NONE : numbers[next];
                part &= ~(1 << next);
                spot = next;
            }
        }

        private int firstNext(int part, int spot) {
            for (int next = 0; next < size; next++) {
                if ((part >> next & 1) == 1 && wayBy(part, spot, next) == leastAt(part, spot)) return next;
            }
            return 0;
        }

        private int wayBy(int part, int spot, int next) {
            return between(spot, next) + leastAt(part & ~(1 << next), next);
        }

        private int leastAt(int part, int spot) {
            int index = part * SPOTS + spot;
            return index < 0 || index >= least.length ? TOO_FAR : least[index];
        }

        private int between(int from, int to) {
            if (isOutside(from, 0, SPOTS - 1) || isOutside(to, 0, SPOTS - 1)) return TOO_FAR;
            return Math.abs(xs[from] - xs[to]) + Math.abs(ys[from] - ys[to]);
        }
    }

    /** The tape, and the plans told on it. */
    private static final class PlanText {
        private static final int MOST_BYTES = 300;
        private static final int MOST_LETTERS = 6;
        private static final int MOST_FIGURES = 5;

        private static final int END = 0;
        private static final int HOUSE_NAME = 1;
        private static final int DAY_NAME = 2;
        private static final int CAP_NAME = 3;
        private static final int PAID_NAME = 4;
        private static final int NUMBER = 5;
        private static final int SEMICOLON = 6;
        private static final int AT_SIGN = 7;
        private static final int STRANGE = 8;

        private static final int AHEAD_OF_PLAN = 0;
        private static final int AHEAD_OF_HOUSE = 1;
        private static final int AHEAD_OF_WAY = 2;
        private static final int AHEAD_OF_LITRES = 3;
        private static final int AHEAD_OF_SIGN = 4;
        private static final int AHEAD_OF_PRICE = 5;
        private static final int AHEAD_OF_END = 6;

        private static final int NO_FAULT = 0;
        private static final int MISPLACED = 1;
        private static final int NO_HOUSE = 2;

        private final byte[] bytes = new byte[MOST_BYTES];
        int size = 0;
        int latestFault = NO_FAULT;
        private int next = 0;
        private int token = END;
        private int start = 0;
        private int number = 0;
        private int state = AHEAD_OF_PLAN;
        private House toldHouse = null;
        private int way = BY_DAY;
        private int litres = 0;
        private int ownPrice = 0;

        int append(long w, int n) {
            if (n > bytes.length - size) return FULL;
            for (int left = n - 1; left >= 0; left--) {
                if (size < 0 || size >= bytes.length) return FULL;
                bytes[size] = (byte) (w >> 8 * left);
                size++;
            }
            return size;
        }

        /** Reads all twice: a fault anywhere leaves every plan as it was. */
        int readAll(House[] houses) {
            int plans = readOnce(houses, false);
            if (plans >= 0) readOnce(houses, true);
            size = 0;
            toldHouse = null;
            return plans;
        }

        private int readOnce(House[] houses, boolean inForce) {
            next = 0;
            state = AHEAD_OF_PLAN;
            int plans = 0;
            for (int tokens = 0; tokens <= MOST_BYTES; tokens++) {
                readToken();
                if (token == END && state == AHEAD_OF_PLAN) break;
                int fault = takeToken(houses);
                if (fault != NO_FAULT) {
                    latestFault = fault;
                    return FAULT_ANSWER - start;
                }
                if (token != SEMICOLON) continue;
                plans++;
                if (inForce && toldHouse != null) toldHouse.plan.become(way, litres, ownPrice);
            }
            return plans;
        }

        private int takeToken(House[] houses) {
            if (!canStandHere()) return MISPLACED;
            switch (state) {
                case AHEAD_OF_PLAN:
                    litres = 0;
                    ownPrice = 0;
                    state = AHEAD_OF_HOUSE;
                    return NO_FAULT;
                case AHEAD_OF_HOUSE:
                    toldHouse = houseIn(houses, number);
                    state = AHEAD_OF_WAY;
                    return toldHouse == null ? NO_HOUSE : NO_FAULT;
                case AHEAD_OF_WAY:
                    takeWay();
                    return NO_FAULT;
                case AHEAD_OF_LITRES:
                    litres = number;
                    state = AHEAD_OF_SIGN;
                    return NO_FAULT;
                case AHEAD_OF_SIGN:
                    state = AHEAD_OF_PRICE;
                    return NO_FAULT;
                case AHEAD_OF_PRICE:
                    ownPrice = number;
                    state = AHEAD_OF_END;
                    return NO_FAULT;
                default:
                    state = AHEAD_OF_PLAN;
                    return NO_FAULT;
            }
        }

        private boolean canStandHere() {
            switch (state) {
                case AHEAD_OF_PLAN:
                    return token == HOUSE_NAME;
                case AHEAD_OF_WAY:
                    return token == DAY_NAME || token == CAP_NAME || token == PAID_NAME;
                case AHEAD_OF_HOUSE:
                case AHEAD_OF_LITRES:
                case AHEAD_OF_PRICE:
                    return token == NUMBER;
                case AHEAD_OF_SIGN:
                    return token == AT_SIGN;
                default:
                    return token == SEMICOLON;
            }
        }

        private void takeWay() {
            switch (token) {
                case CAP_NAME:
                    way = BY_CAP;
                    state = AHEAD_OF_PRICE;
                    return;
                case PAID_NAME:
                    way = BY_PAID;
                    state = AHEAD_OF_LITRES;
                    return;
                default:
                    way = BY_DAY;
                    state = AHEAD_OF_END;
            }
        }

        private void readToken() {
            while (next < size && (byteAt(next) == ' ' || byteAt(next) == '\n')) next++;
            start = next;
            int first = byteAt(start);
            if (first < 0) {
                token = END;
            } else if (isLetter(first)) {
                while (next < size && isLetter(byteAt(next))) next++;
                token = nameToken();
            } else if (isFigure(first)) {
                while (next < size && isFigure(byteAt(next))) next++;
                token = numberToken();
            } else {
                next++;
                token = first == ';' ? SEMICOLON : first == '@' ? AT_SIGN : STRANGE;
            }
        }

        private int nameToken() {
            if (next - start > MOST_LETTERS) return STRANGE;
            if (isName("house")) return HOUSE_NAME;
            if (isName("day")) return DAY_NAME;
            if (isName("cap")) return CAP_NAME;
            return isName("paid") ? PAID_NAME : STRANGE;
        }

        private boolean isName(String name) {
            if (name.length() != next - start) return false;
            for (int i = 0; i < name.length(); i++) {
                if (name.charAt(i) != byteAt(start + i)) return false;
            }
            return true;
        }

        private int numberToken() {
            if (next - start > MOST_FIGURES) return STRANGE;
            number = 0;
            for (int i = start; i < next; i++) number = number * 10 + byteAt(i) - '0';
            return NUMBER;
        }

        private static boolean isLetter(int value) {
            return value >= 'a' && value <= 'z';
        }

        private static boolean isFigure(int value) {
            return value >= '0' && value <= '9';
        }

        private int byteAt(int i) {
            return i < 0 || i >= size || i >= bytes.length ? -1 : bytes[i] & 255;
        }
    }

    /** The bodies of the asks, each of which leaves its number as it begins. */
    private static final class Asks {
        private static final int LEAKY_WEIGHT = 5000;

        private final int[] begun = new int[16];
        private int length = 0;

        void emptyTrace() {
            length = 0;
        }

        int traced(int i) {
            return i < 0 || i >= length || i >= begun.length ? NONE : begun[i];
        }

        int weight(House house) {
            switch (house.toldKind()) {
                case LEAKY: return leakyWeight(house);
                case STEADY: return steadyWeight(house);
                case KNOWN: return knownWeight(house);
                default: return lentWeight(house);
            }
        }

        int mark(House house) {
            switch (house.toldKind()) {
                case LEAKY: return leakyMark(house);
                case STEADY:
                case KNOWN: return knownMark(house);
                default: return lentMark(house);
            }
        }

        private int lentWeight(House house) {
            begin(10);
            return house.up - house.down;
        }

        private int knownWeight(House house) {
            begin(11);
            return lentWeight(house) + house.fills;
        }

        private int steadyWeight(House house) {
            begin(12);
            return knownWeight(house) + house.a;
        }

        private int leakyWeight(House house) {
            begin(13);
            return lentWeight(house) + LEAKY_WEIGHT;
        }

        private int lentMark(House house) {
            begin(20);
            return house.holds;
        }

        private int knownMark(House house) {
            begin(21);
            return lentMark(house) + weight(house);
        }

        private int leakyMark(House house) {
            begin(22);
            return lentMark(house) - weight(house);
        }

        private void begin(int body) {
            if (length < 0 || length >= begun.length) return;
            begun[length] = body;
            length++;
        }
    }
}
