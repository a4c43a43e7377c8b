/** One group of checks for each promise of the document: ordinary inputs, edges, wrong inputs. */
public final class PromiseTests {
    private static final int NONE = -1000000, BAD = -1000001, STATE = -1000002, FULL = -1000003, KIND = -1000004;
    private static final int LEAST = Integer.MIN_VALUE, MOST = Integer.MAX_VALUE;

    private static int wrong = 0;
    private static int promise = 0;

    private static void due(String call, long got, long want) {
        if (got == want) return;
        wrong++;
        System.out.println("promise " + promise + ": " + call + " answered " + got + ", due is " + want);
    }

    public static void main(String[] args) {
        constants();
        newObject();
        house();
        prior();
        day();
        dayLimit();
        look();
        told();
        narrowing();
        notes();
        lasts();
        stock();
        lorry();
        calls();
        callsInOrder();
        round();
        roundsOfEight();
        stop();
        fill();
        price();
        feed();
        plans();
        planTokens();
        planFaults();
        plansInForce();
        fault();
        quote();
        kind();
        as();
        ask();
        trace();
        count();
        System.out.println(wrong == 0 ? "all promises hold" : wrong + " answers are not as due");
        if (wrong != 0) System.exit(1);
    }

    /** A house with all the oil in the world behind it, at the depot, with a habit of its own. */
    private static OilRound oneHouse(int holds, int a, int b, int c, int d) {
        OilRound x = new OilRound();
        x.stock(100000);
        x.house(25, 25, holds);
        x.prior(0, a, b, c, d);
        return x;
    }

    private static int feedText(OilRound x, String text) {
        int size = 0;
        for (int i = 0; i < text.length(); i++) size = x.feed(text.charAt(i), 1);
        return size;
    }

    private static int read(OilRound x, String text) {
        feedText(x, text);
        return x.plans();
    }

    private static void habit(OilRound x, int house, int a, int b, int c, int d) {
        due("a of " + house, x.told(house, 0), a);
        due("b of " + house, x.told(house, 1), b);
        due("c of " + house, x.told(house, 2), c);
        due("d of " + house, x.told(house, 3), d);
    }

    private static void span(OilRound x, int house, int up, int down) {
        due("up of " + house, x.told(house, 4), up);
        due("down of " + house, x.told(house, 5), down);
    }

    private static void constants() {
        promise = 0;
        due("NONE", OilRound.NONE, NONE);
        due("BAD", OilRound.BAD, BAD);
        due("STATE", OilRound.STATE, STATE);
        due("FULL", OilRound.FULL, FULL);
        due("KIND", OilRound.KIND, KIND);
    }

    private static void newObject() {
        promise = 1;
        OilRound x = new OilRound();
        for (int what = 0; what <= 7; what++) due("count " + what, x.count(what), 0);
        due("calls", x.calls(), 0);
        due("fault", x.fault(), 0);
        due("trace 0", x.trace(0), NONE);
        due("kind 0", x.kind(0), BAD);
        due("lorry", x.lorry(100), 3000);
        due("price", x.price(0), 100);
        // LOOKAHEAD 3 days with 20: 3 * 1050 is more than any day leaves of 3150.
        x.house(0, 0, 3150);
        due("due at first", x.told(0, 6), 1);
        OilRound y = new OilRound();
        y.house(0, 0, 3151);
        due("not due at first", y.told(0, 6), 0);
        due("another object", y.count(0), 1);
        due("the first object", x.count(0), 1);
    }

    private static void house() {
        promise = 2;
        OilRound x = new OilRound();
        int[] badPlaces = {-1, 51, LEAST, MOST};
        for (int bad : badPlaces) {
            due("x " + bad, x.house(bad, 0, 100), BAD);
            due("y " + bad, x.house(0, bad, 100), BAD);
        }
        int[] badTanks = {99, 5001, 0, -100, LEAST, MOST};
        for (int bad : badTanks) due("holds " + bad, x.house(0, 0, bad), BAD);
        due("none came", x.count(0), 0);
        due("least", x.house(0, 0, 100), 0);
        due("most", x.house(50, 50, 5000), 1);
        habit(x, 0, 0, 0, 50, 50);
        span(x, 0, 100, 100);
        span(x, 1, 5000, 5000);
        for (int i = 2; i < 24; i++) due("house " + i, x.house(1, 2, 300), i);
        due("the 25th", x.house(1, 2, 300), FULL);
        due("BAD ahead of FULL", x.house(1, 2, 99), BAD);
        due("24 of them", x.count(0), 24);
        // A house comes on the day that is: no day went for it.
        OilRound y = new OilRound();
        y.day(7);
        y.house(3, 4, 200);
        due("days of a new one", y.told(0, 9), 0);
        due("colds of a new one", y.told(0, 10), 0);
        span(y, 0, 200, 200);
    }

    private static void prior() {
        promise = 3;
        OilRound x = new OilRound();
        x.stock(1000);
        due("no house", x.prior(0, 0, 0, 0, 0), BAD);
        x.house(0, 0, 1000);
        int[] bads = {-1, 51, LEAST, MOST};
        for (int bad : bads) {
            due("a " + bad, x.prior(0, bad, 0, 50, 50), BAD);
            due("b " + bad, x.prior(0, 0, bad, 50, 50), BAD);
            due("c " + bad, x.prior(0, 0, 0, bad, 50), BAD);
            due("d " + bad, x.prior(0, 0, 0, 50, bad), BAD);
            due("house " + bad, x.prior(bad, 0, 0, 50, 50), BAD);
        }
        due("a above c", x.prior(0, 4, 0, 3, 0), BAD);
        due("b above d", x.prior(0, 0, 4, 0, 3), BAD);
        habit(x, 0, 0, 0, 50, 50);
        due("ordinary", x.prior(0, 1, 2, 3, 4), 1);
        habit(x, 0, 1, 2, 3, 4);
        due("all equal", x.prior(0, 50, 50, 50, 50), 1);
        habit(x, 0, 50, 50, 50, 50);
        due("wider again", x.prior(0, 0, 0, 1, 1), 1);
        habit(x, 0, 0, 0, 1, 1);
        x.day(0);
        due("a day went", x.prior(0, 0, 0, 2, 2), STATE);
        due("BAD ahead of STATE", x.prior(0, 3, 0, 2, 2), BAD);
        habit(x, 0, 0, 0, 1, 1);
        x.house(0, 0, 1000);
        due("came after the day", x.prior(1, 0, 0, 2, 2), 1);
        x.fill(1, 0);
        due("had a fill", x.prior(1, 0, 0, 3, 3), STATE);
        habit(x, 1, 0, 0, 2, 2);
        // A fill that is refused is none.
        x.house(0, 0, 1000);
        due("refused fill", x.fill(2, 1001), BAD);
        due("had none", x.prior(2, 0, 0, 3, 3), 1);
        x.day(0);
        x.fill(0, 1);
        due("had a fill after its days", x.prior(0, 0, 0, 3, 3), STATE);
    }

    private static void day() {
        promise = 4;
        OilRound x = new OilRound();
        int[] bads = {-1, 41, LEAST, MOST};
        for (int bad : bads) due("cold " + bad, x.day(bad), BAD);
        due("no day went", x.count(1), 0);
        due("no house", x.day(40), 0);
        x.house(0, 0, 1000);
        x.prior(0, 3, 1, 10, 2);
        x.house(0, 0, 100);
        x.prior(1, 5, 0, 50, 1);
        due("a day", x.day(10), 0);
        span(x, 0, 987, 970);
        span(x, 1, 95, 40);
        due("second day, not below 0", x.day(0), 1);
        span(x, 0, 984, 960);
        span(x, 1, 90, 0);
        due("third day", x.day(40), 1);
        span(x, 0, 941, 870);
        span(x, 1, 85, 0);
        due("days gone", x.count(1), 4);
        due("n", x.told(0, 9), 3);
        due("s", x.told(0, 10), 50);
        for (int i = 0; i < 17; i++) x.day(0);
        span(x, 1, 0, 0);
        due("UP not below 0", x.day(0), 1);
        span(x, 1, 0, 0);
        // DOWN is exactly 0: not SAFE.
        OilRound y = oneHouse(100, 0, 0, 50, 0);
        due("50 left", y.day(9), 0);
        due("0 left", y.day(9), 1);
        // One litre is SAFE.
        OilRound v = oneHouse(101, 0, 0, 50, 0);
        v.day(0);
        due("1 left", v.day(0), 0);
        span(v, 0, 101, 1);
        // No use at all.
        OilRound z = oneHouse(100, 0, 0, 0, 0);
        due("nothing used", z.day(40), 0);
        span(z, 0, 100, 100);
    }

    /** Not to be met within 512 calls; but the limit is the document's. */
    private static void dayLimit() {
        promise = 4;
        OilRound x = new OilRound();
        for (int i = 0; i < 20000; i++) x.day(0);
        due("day 20000", x.count(1), 20000);
        due("one more", x.day(0), STATE);
        due("BAD ahead of STATE", x.day(41), BAD);
        due("still", x.count(1), 20000);
    }

    private static void look() {
        promise = 5;
        OilRound x = new OilRound();
        int[] badDays = {-1, 11, LEAST, MOST};
        for (int bad : badDays) due("days " + bad, x.look(bad, 0), BAD);
        int[] badColds = {-1, 41, LEAST, MOST};
        for (int bad : badColds) due("cold " + bad, x.look(0, bad), BAD);
        due("no house", x.look(10, 40), 0);
        x.house(0, 0, 1000);
        x.prior(0, 0, 0, 40, 2);
        x.house(0, 0, 100);
        x.prior(1, 0, 0, 5, 0);
        due("10 * 100 takes 1000", x.look(10, 30), 1);
        due("which", x.told(0, 6), 1);
        due("10 * 98 does not", x.look(10, 29), 0);
        due("9 * 100 does not", x.look(9, 30), 0);
        due("refused", x.look(11, 40), BAD);
        due("refused changes nothing", x.count(2), 0);
        due("10 * 120", x.look(10, 40), 1);
        due("refused", x.look(0, 41), BAD);
        due("refused changes nothing", x.count(2), 1);
        due("no days: full tanks are not due", x.look(0, 40), 0);
        OilRound y = oneHouse(100, 0, 0, 50, 50);
        y.day(40);
        due("no days: dry ones are", y.look(0, 0), 1);
    }

    private static void told() {
        promise = 6;
        OilRound x = new OilRound();
        due("no house", x.told(0, 0), BAD);
        x.stock(5000);
        x.house(1, 2, 1000);
        x.prior(0, 1, 2, 3, 4);
        int[] bads = {-1, 11, LEAST, MOST};
        for (int bad : bads) due("what " + bad, x.told(0, bad), BAD);
        int[] badHouses = {-1, 1, 23, 24, LEAST, MOST};
        for (int bad : badHouses) due("house " + bad, x.told(bad, 0), BAD);
        x.day(10);
        x.day(20);
        int[] want = {1, 2, 3, 4, 938, 874, 0, 0, 0, 2, 30};
        for (int what = 0; what <= 10; what++) due("told " + what, x.told(0, what), want[what]);
        x.look(10, 40);
        due("due", x.told(0, 6), 1);
        x.look(3, 20);
        x.fill(0, 100);
        int[] then = {3, 3, 3, 3, 1000, 1000, 0, 1, 0, 0, 0};
        for (int what = 0; what <= 10; what++) due("told then " + what, x.told(0, what), then[what]);
        x.fill(0, 1);
        due("LEAK", x.told(0, 8), 1);
        due("two fills", x.told(0, 7), 2);
        x.day(0);
        x.fill(0, 0);
        due("LESS", x.told(0, 8), 2);
        x.day(0);
        x.fill(0, 3);
        due("nothing noted of the latest", x.told(0, 8), 0);
        due("four fills", x.told(0, 7), 4);
    }

    /** Part 2: the four numbers one behind the other, cut or rounded up, each within its own bound. */
    private static void narrowing() {
        promise = 13;
        OilRound x = oneHouse(1000, 0, 0, 50, 50);
        x.day(10);
        x.day(5);
        x.day(0);
        // n 3, s 15: c 32 by 3 cut; d 32 by 15 cut; a (32 - 30) by 3 up; b (32 - 30) by 15 up.
        x.fill(0, 32);
        habit(x, 0, 1, 1, 10, 2);
        x.day(4);
        // n 1, s 4: c 15 - 4 = 11, stays 10; d 14 by 4 = 3, stays 2; a 15 - 8 = 7; b (15 - 10) by 4 up = 2.
        x.fill(0, 15);
        habit(x, 0, 7, 2, 10, 2);

        // No colds: b and d stay; c and a meet.
        OilRound y = oneHouse(1000, 0, 0, 50, 50);
        y.day(0);
        y.day(0);
        y.fill(0, 41);
        habit(y, 0, 20, 0, 20, 50);
        span(y, 0, 1000, 1000);

        // What comes below what is known of it leaves that as it is.
        OilRound z = oneHouse(1000, 5, 1, 20, 3);
        z.day(40);
        z.fill(0, 45);
        habit(z, 0, 5, 1, 5, 1);

        // Rounded up beyond c: a is not above c. n 2, s 3, q 4: c 2, d 1, a (4 - 3) by 2 up = 1, b (4 - 4) by 3 = 0.
        OilRound v = oneHouse(1000, 0, 0, 9, 9);
        v.day(0);
        v.day(3);
        v.fill(0, 4);
        habit(v, 0, 1, 0, 2, 1);
        // n 3, s 5, q 4: c 1; d 0 (4 by 5 cut); a 4 by 3 up = 2, but not above 1; b (4 - 3) by 5 up = 1, not above 0.
        OilRound w = oneHouse(1000, 0, 0, 9, 9);
        w.day(5);
        w.day(0);
        w.day(0);
        w.fill(0, 4);
        habit(w, 0, 1, 0, 1, 0);

        // d with an a above 0, s being 1: q 9, n 2, a 3: c 4 (9 by 2 cut), d (9 - 6) by 1 = 3, a (9 - 3) by 2 = 3, b 9 - 8 = 1.
        OilRound r = oneHouse(1000, 3, 0, 9, 9);
        r.day(1);
        r.day(0);
        r.fill(0, 9);
        habit(r, 0, 3, 1, 4, 3);

        // A fill of all the tank tells nothing; neither does one without a day.
        OilRound t = oneHouse(100, 0, 0, 50, 50);
        t.day(10);
        t.fill(0, 100);
        habit(t, 0, 0, 0, 50, 50);
        due("nothing noted", t.told(0, 8), 0);
        t.fill(0, 0);
        habit(t, 0, 0, 0, 50, 50);
        due("nothing noted", t.told(0, 8), 0);
        t.day(10);
        t.fill(0, 99);
        habit(t, 0, 9, 5, 50, 9);

        // A house that uses 6 + 2 times the cold on each day keeps them within.
        OilRound u = oneHouse(5000, 0, 0, 50, 50);
        int[] colds = {3, 0, 17, 40, 1, 1, 0, 8, 22, 39, 5, 6};
        int used = 0;
        for (int i = 0; i < colds.length; i++) {
            u.day(colds[i]);
            used += 6 + 2 * colds[i];
            if (i % 3 == 1) continue;
            u.fill(0, used);
            used = 0;
            due("nothing noted after day " + i, u.told(0, 8), 0);
            due("a within", u.told(0, 0) <= 6 ? 1 : 0, 1);
            due("c within", u.told(0, 2) >= 6 ? 1 : 0, 1);
            due("b within", u.told(0, 1) <= 2 ? 1 : 0, 1);
            due("d within", u.told(0, 3) >= 2 ? 1 : 0, 1);
        }
    }

    private static void notes() {
        promise = 13;
        // n 2, s 10: at most 2 * 8 + 10 * 3 = 46, at least 2 * 4 + 10 * 1 = 18.
        int[][] notes = {{46, 0}, {47, 1}, {18, 0}, {17, 2}, {0, 2}, {100, 1}};
        for (int[] each : notes) {
            OilRound x = oneHouse(100, 4, 1, 8, 3);
            x.day(10);
            x.day(0);
            x.fill(0, each[0]);
            due("note of " + each[0], x.told(0, 8), each[1]);
            if (each[1] != 0) habit(x, 0, 4, 1, 8, 3);
            span(x, 0, 100, 100);
            due("n then", x.told(0, 9), 0);
            due("s then", x.told(0, 10), 0);
        }
        // A dry tank takes what it holds: less than was used, but not LESS.
        OilRound y = oneHouse(100, 40, 0, 50, 0);
        for (int i = 0; i < 3; i++) y.day(0);
        y.fill(0, 100);
        due("what it holds is not LESS", y.told(0, 8), 0);
        habit(y, 0, 40, 0, 50, 0);
        for (int i = 0; i < 3; i++) y.day(0);
        y.fill(0, 99);
        due("one litre below is", y.told(0, 8), 2);
        y.fill(0, 1);
        due("without a day any litre is a LEAK", y.told(0, 8), 1);
        y.fill(0, 0);
        due("none is nothing", y.told(0, 8), 0);
    }

    private static void lasts() {
        promise = 7;
        OilRound x = new OilRound();
        due("no house", x.lasts(0, 0), BAD);
        x.house(0, 0, 1000);
        x.prior(0, 0, 0, 10, 3);
        int[] bads = {-1, 41, LEAST, MOST};
        for (int bad : bads) due("cold " + bad, x.lasts(0, bad), BAD);
        due("house 1", x.lasts(1, 0), BAD);
        due("house -1", x.lasts(-1, 0), BAD);
        due("at 0: on day 100 it is 0", x.lasts(0, 0), 99);
        due("at 30: on day 10 it is 0", x.lasts(0, 30), 9);
        due("at 40: 7 * 130 is 910", x.lasts(0, 40), 7);
        x.day(40);
        due("870 left", x.lasts(0, 40), 6);
        OilRound y = oneHouse(5000, 0, 0, 1, 0);
        due("500 at most", y.lasts(0, 40), 500);
        OilRound z = oneHouse(501, 0, 0, 1, 0);
        due("500 exactly", z.lasts(0, 0), 500);
        OilRound w = oneHouse(500, 0, 0, 1, 0);
        due("499", w.lasts(0, 0), 499);
        OilRound v = oneHouse(100, 0, 0, 0, 1);
        due("no use", v.lasts(0, 0), 500);
        for (int i = 0; i < 3; i++) v.day(40);
        due("dry, no use", v.lasts(0, 0), 0);
        OilRound u = oneHouse(101, 0, 0, 0, 50);
        u.day(2);
        due("one litre, no use", u.lasts(0, 0), 500);
        due("one litre, some use", u.lasts(0, 1), 0);
        due("dry", v.lasts(0, 1), 0);
    }

    private static void stock() {
        promise = 8;
        OilRound x = new OilRound();
        int[] bads = {-1, 100001, LEAST, MOST};
        for (int bad : bads) due("q " + bad, x.stock(bad), BAD);
        due("none", x.stock(0), 0);
        due("some", x.stock(40000), 40000);
        due("too much with what is there", x.stock(60001), BAD);
        due("most", x.stock(MOST), BAD);
        due("up to the brim", x.stock(60000), 100000);
        due("one more", x.stock(1), BAD);
        due("none more", x.stock(0), 100000);
        due("count 3", x.count(3), 100000);
        x.house(0, 0, 5000);
        x.fill(0, 5000);
        due("what was led away may come anew", x.stock(5000), 100000);
        due("count 4", x.count(4), 105000);
    }

    private static void lorry() {
        promise = 9;
        OilRound x = new OilRound();
        int[] bads = {99, 9001, 0, -1, LEAST, MOST};
        for (int bad : bads) due("l " + bad, x.lorry(bad), BAD);
        due("first", x.lorry(100), 3000);
        due("least", x.lorry(9000), 100);
        due("most", x.lorry(9001), BAD);
        due("as it was", x.lorry(500), 9000);
    }

    private static void calls() {
        promise = 10;
        OilRound x = new OilRound();
        due("no house", x.calls(), 0);
        x.house(0, 0, 1000);
        x.house(0, 0, 1000);
        x.house(0, 0, 1000);
        for (int i = 0; i < 3; i++) x.prior(i, 0, 0, 50 - 10 * i, 0);
        due("none due", x.calls(), 0);
        for (int i = 0; i < 10; i++) x.day(0);
        // DOWN 500, 600, 700; HIGH 50, 40, 30: they can go 10, 15, 23 days.
        due("due at ten days", x.look(10, 0), 1);
        due("the due one alone", x.calls(), 1);
        x.lorry(499);
        due("its need is above L", x.calls(), 0);
        x.lorry(500);
        due("its need is L", x.calls(), 1);
        due("no stock is asked for", x.count(3), 0);
        // Of 24 that are due the last alone fits.
        OilRound z = new OilRound();
        for (int i = 0; i < 24; i++) z.house(0, 0, i < 23 ? 201 : 200);
        z.day(40);
        z.lorry(200);
        due("the last of 24", z.calls(), 1 << 23);
        z.lorry(201);
        due("the first of 24", z.calls(), 1);
        // Eight at most, of equal ones the first numbers.
        OilRound y = new OilRound();
        for (int i = 0; i < 10; i++) y.house(0, 0, 100);
        due("eight", y.calls(), 255);
    }

    private static void callsInOrder() {
        promise = 10;
        OilRound x = new OilRound();
        x.stock(10000);
        for (int i = 0; i < 4; i++) x.house(0, 0, 1000);
        x.prior(0, 0, 0, 20, 0);
        x.prior(1, 0, 0, 40, 0);
        x.prior(2, 0, 0, 50, 0);
        x.prior(3, 0, 0, 0, 1);
        for (int i = 0; i < 18; i++) x.day(0);
        x.day(40);
        // DOWN 620, 240, 50, 960; days at cold 40: 31, 6, 1, 24.
        x.look(10, 40);
        due("two are due", x.count(2), 2);
        x.lorry(1000);
        due("the one with the fewest days first", x.calls(), 4);
        x.lorry(949);
        due("what does not fit is left out, the next may fit", x.calls(), 2);
        x.lorry(1710);
        due("both: exactly L", x.calls(), 6);
        x.lorry(1709);
        due("both no more", x.calls(), 4);
        // Cut days are equal: 240 by 40 is 6, 319 by 50 is 6 too; then numbers count, not what is left.
        OilRound y = new OilRound();
        y.house(0, 0, 1000);
        y.prior(0, 0, 0, 0, 0);
        y.house(0, 0, 319);
        y.prior(1, 0, 0, 50, 0);
        y.house(0, 0, 340);
        y.prior(2, 0, 0, 50, 0);
        y.house(0, 0, 305);
        y.prior(3, 0, 0, 50, 0);
        y.look(10, 0);
        due("three due; no need yet", y.calls(), 14);
        y.day(0);
        y.lorry(100);
        due("two of equal days and needs: the least numbers", y.calls(), 6);
        // The days are asked with the told COLD.
        OilRound z = new OilRound();
        z.house(0, 0, 200);
        z.prior(0, 0, 0, 20, 0);
        z.house(0, 0, 200);
        z.prior(1, 0, 0, 10, 1);
        for (int i = 0; i < 5; i++) z.day(0);
        // DOWN 100, 150; cold 0: HIGH 20, 10: 5, 15 days; cold 40: 20, 50: 5, 3 days.
        z.lorry(100);
        z.look(10, 0);
        due("at cold 0", z.calls(), 1);
        z.look(10, 40);
        due("at cold 40", z.calls(), 2);
        // HIGH 0 counts as 1000 days: a dry one that needs nothing comes last.
        OilRound w = new OilRound();
        w.house(0, 0, 100);
        w.prior(0, 0, 0, 0, 50);
        w.house(0, 0, 100);
        w.prior(1, 0, 0, 10, 0);
        w.day(40);
        w.look(10, 0);
        w.lorry(100);
        due("HIGH 0 comes last", w.calls(), 2);
        w.lorry(110);
        due("with room for both", w.calls(), 3);
        // HIGH 1: DOWN 50 by 10 is 5 days, DOWN 4 by 1 is 4.
        OilRound v = new OilRound();
        v.house(0, 0, 100);
        v.prior(0, 0, 0, 10, 0);
        v.house(0, 0, 100);
        v.prior(1, 0, 0, 0, 1);
        int[] colds = {40, 40, 16, 0, 0};
        for (int cold : colds) v.day(cold);
        v.look(10, 1);
        v.lorry(100);
        due("HIGH 1", v.calls(), 2);
    }

    private static void round() {
        promise = 11;
        OilRound x = new OilRound();
        due("no house", x.round(1, 0), BAD);
        for (int i = 0; i < 9; i++) x.house(i, 0, 1000);
        int[] badSets = {0, -1, LEAST, MOST, 512, 513, 511, 1 << 24, 1 << 30};
        for (int bad : badSets) {
            for (int what = 0; what <= 2; what++) due("set " + bad, x.round(bad, what), BAD);
        }
        int[] bads = {-1, 3, LEAST, MOST};
        for (int bad : bads) due("what " + bad, x.round(1, bad), BAD);
        due("there and back", x.round(1, 0), 100);
        due("eight of nine", x.round(510, 0), 98);
        due("needs nothing: it may", x.round(510, 1), 1);
        due("needs nothing", x.round(510, 2), 0);
        x.day(9);
        due("500 each", x.round(3, 2), 1000);
        due("no stock", x.round(3, 1), 0);
        x.stock(999);
        due("stock 999", x.round(3, 1), 0);
        x.stock(1);
        due("stock 1000", x.round(3, 1), 1);
        x.lorry(999);
        due("lorry 999", x.round(3, 1), 0);
        x.lorry(1000);
        due("lorry 1000", x.round(3, 1), 1);
        x.fill(0, 500);
        due("one filled", x.round(3, 2), 500);
        OilRound y = new OilRound();
        for (int i = 0; i < 24; i++) y.house(25, 25, 100);
        due("the last of 24", y.round(1 << 23, 0), 0);
        due("bit 24", y.round(1 << 24, 0), BAD);
        due("bit 31", y.round(LEAST + 1, 0), BAD);
        due("at the depot: by numbers", y.stop(0xff0000, 0), 16);
        due("the last", y.stop(0xff0000, 7), 23);
    }

    /** Rounds of up to eight houses against all orders tried in turn. */
    private static void roundsOfEight() {
        promise = 11;
        OilRound x = new OilRound();
        int[] xs = new int[12];
        int[] ys = new int[12];
        int seed = 12345;
        for (int i = 0; i < 12; i++) {
            seed = seed * 1103515245 + 12345;
            xs[i] = (seed >>> 8) % 51;
            seed = seed * 1103515245 + 12345;
            // Few rows, so that many orders have the same way.
            ys[i] = (seed >>> 8) % 3 * 10;
            x.house(xs[i], ys[i], 100);
        }
        int[] sets = {0x003, 0x907, 0x0ff, 0xff0, 0x5af, 0xabe, 0xf1e, 0x811, 0x3fc};
        for (int set : sets) {
            int[] best = bestOrder(set, xs, ys);
            promise = 11;
            due("way of " + set, x.round(set, 0), best[0]);
            promise = 12;
            for (int i = 1; i < best.length; i++) due("stop " + (i - 1) + " of " + set, x.stop(set, i - 1), best[i]);
            due("behind the last of " + set, x.stop(set, best.length - 1), NONE);
        }
    }

    /** The least way, then the order of it that comes first by numbers. */
    private static int[] bestOrder(int set, int[] xs, int[] ys) {
        int[] best = new int[Integer.bitCount(set) + 1];
        best[0] = MOST;
        tryOrders(set, 0, new int[best.length - 1], new int[][] {xs, ys}, best);
        return best;
    }

    private static void tryOrders(int left, int length, int[] order, int[][] places, int[] best) {
        if (left == 0) {
            int way = 0;
            int px = 25;
            int py = 25;
            for (int number : order) {
                way += Math.abs(places[0][number] - px) + Math.abs(places[1][number] - py);
                px = places[0][number];
                py = places[1][number];
            }
            way += Math.abs(25 - px) + Math.abs(25 - py);
            if (way >= best[0]) return;
            best[0] = way;
            System.arraycopy(order, 0, best, 1, order.length);
            return;
        }
        for (int number = 0; number < 12; number++) {
            if ((left >> number & 1) == 0) continue;
            order[length] = number;
            tryOrders(left & ~(1 << number), length + 1, order, places, best);
        }
    }

    private static void stop() {
        promise = 12;
        OilRound x = new OilRound();
        due("no house", x.stop(1, 0), BAD);
        x.house(25, 35, 100);
        x.house(25, 30, 100);
        x.house(25, 15, 100);
        // 40 in all any way that goes up and back, down and back: 0 ahead of 1, as its number is less.
        due("first", x.stop(7, 0), 0);
        due("second", x.stop(7, 1), 1);
        due("third", x.stop(7, 2), 2);
        due("fourth", x.stop(7, 3), NONE);
        due("far behind", x.stop(7, MOST), NONE);
        due("ahead of all", x.stop(7, -1), NONE);
        due("by a part of them", x.stop(6, 0), 1);
        due("by a part of them", x.stop(6, 1), 2);
        due("by one", x.stop(4, 0), 2);
        due("by one", x.stop(4, 1), NONE);
        due("empty", x.stop(0, 0), BAD);
        due("not there", x.stop(8, 0), BAD);
        due("BAD ahead of NONE", x.stop(8, 99), BAD);
        due("negative", x.stop(-1, 0), BAD);
        for (int i = 3; i < 9; i++) x.house(25, 25, 100);
        due("nine", x.stop(511, 0), BAD);
        due("eight", x.stop(510, 7), 8);
        // The shortest is taken, though its numbers are greater.
        OilRound y = new OilRound();
        y.house(25, 50, 100);
        y.house(26, 26, 100);
        y.house(50, 50, 100);
        due("way", y.round(7, 0), 100);
        due("0 first", y.stop(7, 0), 0);
        due("then 2", y.stop(7, 1), 2);
        due("then 1", y.stop(7, 2), 1);
    }

    private static void fill() {
        promise = 13;
        OilRound x = new OilRound();
        due("no house", x.fill(0, 0), BAD);
        x.house(0, 0, 200);
        int[] bads = {-1, 201, LEAST, MOST};
        for (int bad : bads) due("q " + bad, x.fill(0, bad), BAD);
        due("house 1", x.fill(1, 0), BAD);
        due("house -1", x.fill(-1, 0), BAD);
        due("no stock", x.fill(0, 1), STATE);
        x.stock(150);
        x.day(2);
        due("more than the stock", x.fill(0, 151), STATE);
        due("BAD ahead of STATE", x.fill(0, 201), BAD);
        due("refused: no fill", x.told(0, 7), 0);
        due("refused: n", x.told(0, 9), 1);
        due("refused: stock", x.count(3), 150);
        due("all the stock", x.fill(0, 150), 15000);
        due("one fill", x.told(0, 7), 1);
        due("stock then", x.count(3), 0);
        due("litres then", x.count(5), 150);
        due("paid then", x.count(6), 15000);
        span(x, 0, 200, 200);
        due("nothing from nothing", x.fill(0, 0), 0);
        due("two fills", x.told(0, 7), 2);
        x.stock(5000);
        x.price(7);
        due("what it holds", x.fill(0, 200), 1400);
        x.price(0);
        due("for nothing", x.fill(0, 200), 0);
        due("other stock", x.count(3), 4600);
    }

    private static void price() {
        promise = 14;
        OilRound x = new OilRound();
        x.house(0, 0, 100);
        int[] bads = {-1, 1001, LEAST, MOST};
        for (int bad : bads) due("v " + bad, x.price(bad), BAD);
        due("first", x.price(0), 100);
        due("0", x.quote(0, 10), 0);
        due("second", x.price(1000), 0);
        due("1000", x.quote(0, 10), 10000);
        due("refused", x.price(1001), BAD);
        due("as it was", x.price(5), 1000);
    }

    private static void feed() {
        promise = 15;
        OilRound x = new OilRound();
        int[] bads = {0, -1, 9, LEAST, MOST};
        for (int bad : bads) due("n " + bad, x.feed(0, bad), BAD);
        due("nothing came", x.count(7), 0);
        x.house(0, 0, 100);
        // 'house 0 ' 'day' ';': of the second w the three lowest bytes alone.
        due("eight", x.feed(0x686f757365203020L, 8), 8);
        due("three of more", x.feed(0x7878787878646179L, 3), 11);
        due("one", x.feed(-256L + ';', 1), 12);
        due("read", x.plans(), 1);
        due("empty then", x.count(7), 0);
        for (int i = 1; i <= 37; i++) due("eight more", x.feed(0x2020202020202020L, 8), 8 * i);
        due("five are too many", x.feed(0x2020202020L, 5), FULL);
        due("none came", x.count(7), 296);
        due("BAD ahead of FULL", x.feed(0, 9), BAD);
        due("four fit", x.feed(0x20202020L, 4), 300);
        due("one is too many", x.feed(' ', 1), FULL);
        due("300 blanks are no plan", x.plans(), 0);
        due("empty then", x.feed(' ', 1), 1);
    }

    private static OilRound threeHouses() {
        OilRound x = new OilRound();
        x.stock(50000);
        x.house(0, 0, 1000);
        x.house(0, 0, 1000);
        x.house(0, 0, 1000);
        return x;
    }

    private static void plans() {
        promise = 16;
        OilRound x = threeHouses();
        due("nothing", x.plans(), 0);
        due("blanks", read(x, " \n "), 0);
        due("one", read(x, "house 1 cap 90;"), 1);
        due("the tape is empty", x.count(7), 0);
        due("in force", x.quote(1, 10), 900);
        due("not for others", x.quote(0, 10), 1000);
        due("three, one twice", read(x, "house 0 day; house 1 paid 5 @ 3; house 1 cap 80;"), 3);
        due("the latest", x.quote(1, 10), 800);
        due("it stays", read(x, ""), 0);
        due("the latest", x.quote(1, 10), 800);
        due("by the day again", read(x, "house 1 day;"), 1);
        due("day", x.quote(1, 10), 1000);
        // The tape's full length.
        StringBuilder all = new StringBuilder();
        for (int i = 0; i < 25; i++) all.append("house 2 day;");
        due("300 bytes", feedText(x, all.toString()), 300);
        due("25 plans", x.plans(), 25);
        // Hardly a blank.
        all.setLength(0);
        for (int i = 0; i < 27; i++) all.append("house2day;\n");
        due("297 bytes", feedText(x, all.toString()), 297);
        due("27 plans", x.plans(), 27);
    }

    private static void planTokens() {
        promise = 16;
        OilRound x = threeHouses();
        due("no blanks", read(x, "house0paid10@20;house1cap7;house2day;"), 3);
        due("paid", x.quote(0, 10), 200);
        due("cap", x.quote(1, 10), 70);
        due("many blanks", read(x, "\n\n  house\n 00002  paid\n00010   @\n00030 ;  \n"), 1);
        due("figures with 0 ahead", x.quote(2, 11), 400);
        due("five figures", read(x, "house 0 paid 99999 @ 99999;"), 1);
        due("the most", x.quote(0, 5000), 499995000);
        due("cap 0", read(x, "house 0 cap 0;"), 1);
        due("for nothing", x.quote(0, 5000), 0);
        due("paid 0", read(x, "house 0 paid 0@0;"), 1);
        due("by the day", x.quote(0, 10), 1000);
    }

    /** Each text with the place of its fault and the fault's number; house 3 is not there. */
    private static void planFaults() {
        String[] texts = {
            "x", "house", "house ", "house  \n", "house 0", "house 0 day", "house 0 day ", "house 0 cap", "house 0 cap 1",
            "house 0 paid", "house 0 paid 1", "house 0 paid 1 @", "house 0 paid 1 @ 2", "house 0 day;;", "; ", "0", "@",
            "day", "house day", "house 0 0", "house 0 house", "house 0 day 1;", "house 0 cap;", "house 0 cap @;",
            "house 0 cap 1 @", "house 0 paid 1 2;", "house 0 paid @", "house 0 paid 1 @ @", "house 0 paid 1 @ 2 @",
            "house 3 day;", "house 3", "house 99999 day;", "house 000000 day;", "house 0 cap 123456;",
            "house 0 cap 1234567890123;", "house 0 paid 000001@2;", "house 0 paid 1@000002;",
            "housee 0 day;", "househouse 0 day;", "hous e 0 day;", "House 0 day;", "house 0 Day;", "house 0 days;",
            "house 0 da;", "house\t0 day;", "house 0\rday;", "house -1 day;", "house 0 day,", "house 0 day;\u00ff",
            "house 0 day;  x", "house 0 day; house 3 day;", "house 0 day; house 3 x;", "house 3 x; house 0 day;", "house 0 cap 1.5;",
            "house 0 day\0;", "`", "{", "/", ":", "house0day;house1cap5;house2paid4@", "house 0 capp 5;", "house 0 paidd 5@1;",
            "xouse 0 day;", "house 0 xay;", "house 0 capz 5;", "house 0 cap5z;", "house 0 acap 5;", "houseadayb"
        };
        int[] places = {
            0, 5, 6, 8, 7, 11, 12, 11, 13,
            12, 14, 16, 18, 12, 0, 0, 0,
            0, 6, 8, 8, 12, 11, 12,
            14, 15, 13, 17, 19,
            6, 6, 6, 6, 12,
            12, 13, 15,
            0, 0, 0, 0, 8, 8,
            8, 5, 7, 6, 11, 12,
            14, 19, 19, 6, 13,
            11, 0, 0, 0, 0, 33, 8, 8,
            0, 8, 8, 12, 8, 0
        };
        String noHouse = "|house 3 day;|house 3|house 99999 day;|house 0 day; house 3 day;|house 0 day; house 3 x;"
            + "|house 3 x; house 0 day;|";
        for (int i = 0; i < texts.length; i++) {
            OilRound x = threeHouses();
            promise = 16;
            due("'" + texts[i] + "'", read(x, texts[i]), -1000100 - places[i]);
            due("the tape is empty", x.count(7), 0);
            promise = 17;
            due("fault of '" + texts[i] + "'", x.fault(), noHouse.contains("|" + texts[i] + "|") ? 2 : 1);
        }
        promise = 16;
        OilRound y = threeHouses();
        StringBuilder all = new StringBuilder("house 0 day");
        while (all.length() < 300) all.append(' ');
        due("300 bytes, the end missing", read(y, all.toString()), -1000100 - 300);
        for (int value = 0; value < 256; value++) {
            if (value == ' ' || value == '\n' || value == 'h') continue;
            y.feed(value, 1);
            due("byte " + value, y.plans(), -1000100);
        }
    }

    private static void plansInForce() {
        promise = 16;
        OilRound x = threeHouses();
        read(x, "house 0 cap 50; house 1 paid 100 @ 60;");
        x.fill(1, 30);
        due("a fault behind plans", read(x, "house 0 day; house 1 day; house 2 cap 5; house 3 day;"), -1000100 - 47);
        due("none in force: 0", x.quote(0, 10), 500);
        due("none in force: 1", x.quote(1, 100), 70 * 60 + 30 * 100);
        due("none in force: 2", x.quote(2, 10), 1000);
        due("paid anew", read(x, "house 1 paid 100 @ 60;"), 1);
        due("all of it", x.quote(1, 100), 6000);
        // A house that is not there when the tape is read, though it comes later.
        due("later", read(x, "house 3 cap 1;"), -1000106);
        feedText(x, "house 3 cap 1;");
        x.house(0, 0, 100);
        due("there when it is read", x.plans(), 1);
        due("in force", x.quote(3, 10), 10);
    }

    private static void fault() {
        promise = 17;
        OilRound x = threeHouses();
        due("before one", x.fault(), 0);
        read(x, "house 0 day;");
        due("still before one", x.fault(), 0);
        read(x, "house 9 day;");
        due("no house", x.fault(), 2);
        read(x, "house 0 day;");
        due("the latest stays", x.fault(), 2);
        read(x, "?");
        due("misplaced", x.fault(), 1);
        read(x, "");
        due("the latest stays", x.fault(), 1);
    }

    private static void quote() {
        promise = 18;
        OilRound x = threeHouses();
        int[] bads = {-1, 5001, LEAST, MOST};
        for (int bad : bads) due("q " + bad, x.quote(0, bad), BAD);
        due("house 3", x.quote(3, 0), BAD);
        due("house -1", x.quote(-1, 0), BAD);
        due("none", x.quote(0, 0), 0);
        due("more than it holds", x.quote(0, 5000), 500000);
        read(x, "house 0 cap 110; house 1 paid 40 @ 120;");
        due("cap above the price", x.quote(0, 10), 1000);
        x.price(110);
        due("cap at the price", x.quote(0, 10), 1100);
        x.price(150);
        due("cap below the price", x.quote(0, 10), 1100);
        due("ahead in part", x.quote(1, 39), 39 * 120);
        due("ahead in all", x.quote(1, 40), 40 * 120);
        due("and by the day", x.quote(1, 41), 40 * 120 + 150);
        due("not used up", x.quote(1, 40), 40 * 120);
        due("a fill uses it up", x.fill(1, 30), 30 * 120);
        due("what is left of it", x.quote(1, 20), 10 * 120 + 10 * 150);
        due("and the rest", x.fill(1, 20), 10 * 120 + 10 * 150);
        due("nothing left", x.quote(1, 20), 20 * 150);
        due("a fill after it", x.fill(1, 20), 20 * 150);
        due("a refused fill", x.fill(0, 1001), BAD);
        due("by the day", x.quote(2, 20), 20 * 150);
        read(x, "house 2 paid 10 @ 1;");
        x.fill(2, 0);
        due("a fill of nothing uses nothing", x.quote(2, 10), 10);
        OilRound y = new OilRound();
        y.house(0, 0, 100);
        read(y, "house 0 paid 10 @ 1;");
        due("the stock has less", y.fill(0, 10), STATE);
        due("a refused fill uses nothing", y.quote(0, 10), 10);
    }

    /** A house of each kind in turn: 0 plain, 1 KNOWN, 2 STEADY, 3 LEAKY. */
    private static OilRound allKinds() {
        OilRound x = new OilRound();
        x.stock(100000);
        for (int i = 0; i < 4; i++) {
            x.house(0, 0, 1000 + i);
            x.prior(i, 2, 0, 10, i == 2 ? 0 : 3);
        }
        for (int i = 0; i < 3; i++) {
            x.day(0);
            if (i == 0) x.fill(0, 5);
            x.fill(1, 5);
            x.fill(2, 5);
            x.fill(3, i == 2 ? 11 : 5);
        }
        return x;
    }

    private static void kind() {
        promise = 19;
        OilRound x = allKinds();
        int[] bads = {-1, 4, 24, LEAST, MOST};
        for (int bad : bads) due("house " + bad, x.kind(bad), BAD);
        for (int i = 0; i < 4; i++) due("kind of " + i, x.kind(i), i);
        OilRound y = oneHouse(1000, 1, 0, 9, 0);
        for (int i = 1; i <= 3; i++) {
            due("after fewer than three", y.kind(0), 0);
            y.day(0);
            y.fill(0, 4);
        }
        due("STEADY", y.kind(0), 2);
        y.day(0);
        y.fill(0, 1);
        due("LESS: known no more", y.kind(0), 0);
        y.day(0);
        y.fill(0, 999);
        due("LEAKY", y.kind(0), 3);
        for (int i = 0; i < 4; i++) {
            y.day(0);
            y.fill(0, 4);
            due("noted once, never known again", y.kind(0), 0);
        }
        // Three fills of which the first was noted.
        OilRound z = oneHouse(1000, 1, 0, 9, 0);
        z.fill(0, 5);
        due("LEAKY at the first", z.kind(0), 3);
        z.fill(0, 0);
        z.fill(0, 0);
        z.fill(0, 0);
        due("plain", z.kind(0), 0);
        // A known one gets steady as d falls to 0; with b above 0 it never does.
        OilRound w = oneHouse(1000, 0, 0, 9, 1);
        for (int i = 0; i < 3; i++) w.fill(0, 0);
        due("d is 1", w.kind(0), 1);
        w.day(5);
        w.fill(0, 4);
        due("d is 0", w.told(0, 3), 0);
        due("d is 0", w.kind(0), 2);
    }

    private static void as() {
        promise = 20;
        OilRound x = allKinds();
        int[] bads = {-1, 4, LEAST, MOST};
        for (int bad : bads) {
            due("kind " + bad, x.as(0, bad), BAD);
            due("house " + bad, x.as(bad, 0), BAD);
        }
        int[][] want = {
            {1000, KIND, KIND, KIND},
            {1001, 1001, KIND, KIND},
            {1002, 1002, 1002, KIND},
            {1003, KIND, KIND, 1003}
        };
        for (int house = 0; house < 4; house++) {
            for (int kind = 0; kind < 4; kind++) {
                due("house " + house + " as " + kind, x.as(house, kind), want[house][kind]);
            }
        }
        due("BAD ahead of KIND", x.as(4, 3), BAD);
    }

    private static void asked(OilRound x, int house, int what, int want, int... bodies) {
        promise = 21;
        due("ask " + house + ", " + what, x.ask(house, what), want);
        promise = 22;
        for (int i = 0; i < bodies.length; i++) due("trace " + i + " of " + house, x.trace(i), bodies[i]);
        for (int i = bodies.length; i < 20; i++) due("behind it", x.trace(i), NONE);
    }

    private static void ask() {
        promise = 21;
        OilRound x = allKinds();
        due("no trace yet", x.trace(0), NONE);
        int[] bads = {-1, 2, LEAST, MOST};
        for (int bad : bads) due("what " + bad, x.ask(0, bad), BAD);
        int[] badHouses = {-1, 4, LEAST, MOST};
        for (int bad : badHouses) due("house " + bad, x.ask(bad, 0), BAD);
        x.day(10);
        // UP less DOWN: plain one, 3 days since its fill: LOWs 3 * 5, HIGHs 2 * 5 + 35; a is 5 for all but the leaky one.
        asked(x, 0, 0, 30, 10);
        asked(x, 1, 0, 30 + 3, 11, 10);
        asked(x, 2, 0, 0 + 3 + 5, 12, 11, 10);
        asked(x, 3, 0, 30 + 5000, 13, 10);
        asked(x, 0, 1, 1000, 20);
        asked(x, 1, 1, 1001 + 33, 21, 20, 11, 10);
        asked(x, 2, 1, 1002 + 8, 21, 20, 12, 11, 10);
        asked(x, 3, 1, 1003 - 5030, 22, 20, 13, 10);
    }

    private static void trace() {
        promise = 22;
        OilRound x = allKinds();
        due("before any ask", x.trace(0), NONE);
        x.ask(2, 1);
        due("ahead of all", x.trace(-1), NONE);
        due("least", x.trace(LEAST), NONE);
        due("most", x.trace(MOST), NONE);
        due("refused", x.ask(2, 2), BAD);
        due("refused", x.ask(9, 0), BAD);
        due("it stays", x.trace(2), 12);
        due("it stays", x.trace(4), 10);
        due("behind it", x.trace(5), NONE);
        x.kind(0);
        x.as(0, 0);
        due("others leave nothing", x.trace(0), 21);
        for (int i = 0; i < 20; i++) x.ask(0, 0);
        due("empty ahead of each", x.trace(0), 10);
        due("one alone", x.trace(1), NONE);
    }

    private static void count() {
        promise = 23;
        OilRound x = new OilRound();
        int[] bads = {-1, 8, LEAST, MOST};
        for (int bad : bads) due("what " + bad, x.count(bad), -1000001L);
        x.house(0, 0, 5000);
        x.house(0, 0, 300);
        x.house(0, 0, 200);
        x.day(1);
        x.day(2);
        x.stock(90000);
        x.stock(10000);
        x.fill(0, 5000);
        x.price(1000);
        x.fill(0, 5000);
        x.fill(1, 300);
        x.stock(300);
        feedText(x, "house 0");
        long[] want = {3, 2, 2, 90000, 100300, 10300, 500000 + 5000000 + 300000, 7};
        for (int what = 0; what <= 7; what++) due("count " + what, x.count(what), want[what]);
        // What all paid is a long: 20 times 5000 at 99999 is beyond an int.
        OilRound y = new OilRound();
        y.house(0, 0, 5000);
        read(y, "house 0 paid 99999 @ 99999;");
        for (int i = 0; i < 10; i++) {
            y.stock(5000);
            due("the dearest", y.fill(0, 5000), 499995000);
        }
        due("all paid", y.count(6), 4999950000L);
        due("all filled", y.count(5), 50000);
        due("all come", y.count(4), 50000);
    }
}
