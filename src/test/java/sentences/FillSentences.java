/** Promise 13 with part 2 of the terms: fills, what is noted at them, habits made narrower, kinds of houses. */
final class FillSentences {
    private static final String NARROWER = "If nothing is noted, q is less than the TANK holds, and n is 1 or more, the PRIOR becomes narrower,";

    private FillSentences() {
    }

    static void holdAll() {
        sinceTheLastFill();
        leak();
        leakOfAWholeTank();
        less();
        lessThanTheTankHolds();
        narrowerIfNothingIsNoted();
        narrowerBehindANotedOne();
        narrowerIfLessThanTheTankHolds();
        narrowerAfterADay();
        oneBehindTheOther();
        narrowerC();
        narrowerD();
        narrowerDWithoutColds();
        narrowerA();
        narrowerANotAboveC();
        narrowerB();
        narrowerBNotAboveD();
        habitsStayWithin();
        afterAFill();
        known();
        knownNeverNoted();
        steady();
        leaky();
        toldAsTheFirstThatFits();
        fillAnswers();
        fillUpToWhatItHolds();
        fillBad();
        fillState();
    }

    private static void habitIs(String when, OilRound x, int a, int b, int c, int d) {
        Book.due("told(0, 0) " + when, x.told(0, 0), a);
        Book.due("told(0, 1) " + when, x.told(0, 1), b);
        Book.due("told(0, 2) " + when, x.told(0, 2), c);
        Book.due("told(0, 3) " + when, x.told(0, 3), d);
    }

    /** A house with a prior, days with these colds, a fill of q: then the habit is the second. */
    private static void narrowed(int[] prior, int[] colds, int q, int[] then) {
        OilRound x = Made.one(1000, prior[0], prior[1], prior[2], prior[3]);
        Made.days(x, colds);
        x.fill(0, q);
        Book.due("told(0, 8) after fill(0, " + q + ")", x.told(0, 8), 0);
        habitIs("after fill(0, " + q + ")", x, then[0], then[1], then[2], then[3]);
    }

    private static int[] row(int... all) {
        return all;
    }

    private static void sinceTheLastFill() {
        Book.test(13, "A FILL: q litres came, until the TANK was full. "
            + "SINCE the last FILL (or since the HOUSE came): n days, s the sum of their COLDS.");
        OilRound x = new OilRound();
        x.stock(1000);
        Made.days(x, 40, 40);
        x.house(0, 0, 1000);
        x.prior(0, 0, 0, 10, 1);
        Made.days(x, 3, 4);
        Book.due("told(0, 9)", x.told(0, 9), 2);
        Book.due("told(0, 10)", x.told(0, 10), 7);
        x.fill(0, 28);
        Book.due("28 of 27", x.told(0, 8), 1);
        x.day(5);
        Book.due("told(0, 9)", x.told(0, 9), 1);
        Book.due("told(0, 10)", x.told(0, 10), 5);
        x.fill(0, 16);
        Book.due("16 of 15", x.told(0, 8), 1);
        x.day(5);
        x.fill(0, 15);
        Book.due("15 of 15", x.told(0, 8), 0);
    }

    private static void leak() {
        Book.test(13, "If q is above n c + s d, LEAK is noted for the HOUSE;");
        int[][] notes = {{45, 0}, {46, 0}, {47, 1}, {48, 1}, {999, 1}, {1000, 1}};
        for (int[] each : notes) {
            OilRound x = Made.one(1000, 4, 1, 8, 3);
            Made.days(x, 10, 0);
            x.fill(0, each[0]);
            Book.due("note of " + each[0] + " of 46", x.told(0, 8), each[1]);
        }
        OilRound y = Made.one(1000, 0, 0, 50, 50);
        y.fill(0, 1);
        Book.due("note of 1 without a day", y.told(0, 8), 1);
        y.fill(0, 0);
        Book.due("note of 0 without a day", y.told(0, 8), 0);
        Book.due("note ahead of any fill", Made.one(100, 0, 0, 0, 0).told(0, 8), 0);
    }

    private static void leakOfAWholeTank() {
        Book.test(13, "If q is above n c + s d, LEAK is noted for the HOUSE;");
        OilRound x = Made.one(101, 0, 0, 50, 0);
        Made.days(x, 7, 7);
        x.fill(0, 101);
        Book.due("note of 101 of 100", x.told(0, 8), 1);
        Made.days(x, 7, 7);
        x.fill(0, 100);
        Book.due("note of 100 of 100", x.told(0, 8), 0);
    }

    private static void less() {
        Book.test(13, "if it is less than n a + s b and less than what the TANK holds, LESS.");
        int[][] notes = {{0, 2}, {1, 2}, {17, 2}, {18, 0}, {19, 0}};
        for (int[] each : notes) {
            OilRound x = Made.one(1000, 4, 1, 8, 3);
            Made.days(x, 10, 0);
            x.fill(0, each[0]);
            Book.due("note of " + each[0] + " of 18", x.told(0, 8), each[1]);
        }
    }

    private static void lessThanTheTankHolds() {
        Book.test(13, "if it is less than n a + s b and less than what the TANK holds, LESS.");
        int[][] notes = {{98, 2}, {99, 2}, {100, 0}};
        for (int[] each : notes) {
            OilRound x = Made.one(100, 40, 0, 50, 0);
            Made.days(x, 0, 0, 0);
            x.fill(0, each[0]);
            Book.due("note of " + each[0] + " of 120 in 100", x.told(0, 8), each[1]);
            habitIs("as at first", x, 40, 0, 50, 0);
        }
    }

    private static void narrowerIfNothingIsNoted() {
        Book.test(13, NARROWER);
        int[] noted = {17, 47};
        for (int q : noted) {
            OilRound x = Made.one(1000, 4, 1, 8, 3);
            Made.days(x, 10, 0);
            x.fill(0, q);
            habitIs("after fill(0, " + q + ")", x, 4, 1, 8, 3);
        }
        narrowed(row(4, 1, 8, 3), row(10, 0), 18, row(4, 1, 4, 1));
        narrowed(row(4, 1, 8, 3), row(10, 0), 46, row(8, 3, 8, 3));
    }

    /** What an earlier fill noted is not noted of this one: 17 was LESS, 47 was LEAK. */
    private static void narrowerBehindANotedOne() {
        Book.test(13, NARROWER);
        int[] noted = {17, 47};
        for (int q : noted) {
            OilRound x = Made.one(1000, 4, 1, 8, 3);
            Made.days(x, 10, 0);
            x.fill(0, q);
            Made.days(x, 10, 0);
            x.fill(0, 32);
            Book.due("told(0, 8) of the fill behind " + q, x.told(0, 8), 0);
            // c stays 8, as (32 - 10) by 2 is more; d (32 - 2 * 4) by 10; a (32 - 10 * 2) by 2; b (32 - 16) by 10.
            habitIs("behind fill(0, " + q + ")", x, 6, 2, 8, 2);
            Book.due("told(0, 7)", x.told(0, 7), 2);
        }
    }

    private static void narrowerIfLessThanTheTankHolds() {
        Book.test(13, NARROWER);
        int[][] fills = {{100, 0, 0, 50, 50}, {99, 9, 5, 50, 9}};
        for (int[] each : fills) {
            OilRound x = Made.one(100, 0, 0, 50, 50);
            x.day(10);
            x.fill(0, each[0]);
            Book.due("told(0, 8) after " + each[0] + " in 100", x.told(0, 8), 0);
            habitIs("after " + each[0] + " in 100", x, each[1], each[2], each[3], each[4]);
        }
    }

    private static void narrowerAfterADay() {
        Book.test(13, NARROWER);
        OilRound x = Made.one(1000, 0, 0, 50, 50);
        x.fill(0, 0);
        habitIs("without a day", x, 0, 0, 50, 50);
        x.day(0);
        x.fill(0, 0);
        habitIs("after one day", x, 0, 0, 0, 50);
        OilRound y = Made.one(1000, 0, 0, 50, 50);
        y.day(1);
        y.fill(0, 0);
        habitIs("after one day with 1", y, 0, 0, 0, 0);
    }

    private static void oneBehindTheOther() {
        Book.test(13, "one number behind the other, each by the others as they are then:");
        // c 32 by 3; d 32 by 15 with a as it was; a (32 - 15 * 2) by 3 with the new d; b (32 - 3 * 10) by 15 with the new c.
        narrowed(row(0, 0, 50, 50), row(10, 5, 0), 32, row(1, 1, 10, 2));
        // c (40 - 10 * 1) by 2 with b as it was; d (40 - 2 * 2) by 10; a (40 - 10 * 3) by 2; b (40 - 2 * 15) by 10.
        narrowed(row(2, 1, 20, 9), row(4, 6), 40, row(5, 1, 15, 3));
        // c 40 by 2; d (40 - 2 * 2) by 10 with a as it was; a (40 - 10 * 3) by 2 with the new d; b (40 - 2 * 20) by 10.
        narrowed(row(2, 0, 30, 9), row(4, 6), 40, row(5, 0, 20, 3));
        // c stays 9; d 14 by 5; a (14 - 5 * 2) by 1; b (14 - 1 * 9) by 5 with c, not with the new a.
        narrowed(row(0, 0, 9, 9), row(5), 14, row(4, 1, 9, 2));
    }

    private static void narrowerC() {
        Book.test(13, "c the lesser of c and (q - s b) by n, cut, but not below a;");
        narrowed(row(0, 2, 9, 9), row(5, 0), 21, row(1, 3, 5, 4));
        narrowed(row(0, 0, 3, 9), row(5, 0), 20, row(0, 3, 3, 4));
        narrowed(row(0, 0, 9, 9), row(0, 0, 0), 8, row(2, 0, 2, 9));
        narrowed(row(0, 0, 9, 9), row(0, 0, 0), 9, row(3, 0, 3, 9));
        narrowed(row(4, 2, 9, 9), row(5, 0), 18, row(4, 2, 4, 2));
        narrowed(row(4, 2, 9, 9), row(5, 0), 19, row(4, 2, 4, 2));
        narrowed(row(0, 0, 9, 9), row(0), 0, row(0, 0, 0, 9));
    }

    private static void narrowerD() {
        Book.test(13, "d, if s is above 0, the lesser of d and (q - n a) by s, cut, but not below b;");
        narrowed(row(3, 0, 9, 9), row(1, 0), 9, row(3, 1, 4, 3));
        narrowed(row(0, 0, 9, 1), row(5), 12, row(7, 1, 9, 1));
        narrowed(row(3, 0, 9, 9), row(5, 0), 20, row(5, 1, 9, 2));
        narrowed(row(3, 0, 9, 9), row(5, 0), 21, row(3, 1, 9, 3));
        narrowed(row(3, 2, 9, 9), row(5, 0), 17, row(3, 2, 3, 2));
    }

    private static void narrowerDWithoutColds() {
        Book.test(13, "d, if s is above 0,");
        narrowed(row(0, 1, 50, 40), row(0), 30, row(30, 1, 30, 40));
        narrowed(row(2, 3, 9, 9), row(0, 0, 0, 0), 20, row(5, 3, 5, 9));
        narrowed(row(2, 3, 9, 9), row(0, 0, 0, 0, 1), 20, row(3, 5, 3, 9));
    }

    private static void narrowerA() {
        Book.test(13, "a the greater of a and (q - s d) by n, rounded up, but not above c;");
        narrowed(row(0, 0, 9, 3), row(5, 0), 28, row(7, 2, 9, 3));
        narrowed(row(0, 0, 9, 3), row(5, 0), 29, row(7, 3, 9, 3));
        narrowed(row(0, 0, 9, 3), row(5, 0), 30, row(8, 3, 9, 3));
        narrowed(row(4, 0, 9, 3), row(5, 0), 23, row(4, 1, 9, 3));
        narrowed(row(4, 0, 9, 3), row(5, 0), 24, row(5, 2, 9, 3));
        narrowed(row(0, 0, 9, 3), row(5, 0), 15, row(0, 1, 7, 3));
    }

    private static void narrowerANotAboveC() {
        Book.test(13, "a the greater of a and (q - s d) by n, rounded up, but not above c;");
        narrowed(row(0, 0, 9, 9), row(0, 0), 5, row(2, 0, 2, 9));
        narrowed(row(0, 0, 9, 9), row(5, 0, 0), 4, row(1, 0, 1, 0));
    }

    private static void narrowerB() {
        Book.test(13, "b, if s is above 0, the greater of b and (q - n c) by s, rounded up, but not above d.");
        narrowed(row(0, 0, 3, 9), row(5, 0), 21, row(1, 3, 3, 4));
        narrowed(row(0, 0, 3, 9), row(5, 0), 22, row(1, 4, 3, 4));
        narrowed(row(0, 2, 3, 9), row(5, 0), 16, row(1, 2, 3, 3));
        narrowed(row(0, 2, 3, 9), row(5, 0), 17, row(1, 3, 3, 3));
        narrowed(row(0, 2, 3, 9), row(0, 0), 2, row(1, 2, 1, 9));
    }

    private static void narrowerBNotAboveD() {
        Book.test(13, "b, if s is above 0, the greater of b and (q - n c) by s, rounded up, but not above d.");
        narrowed(row(0, 0, 9, 9), row(5, 0, 0), 4, row(1, 0, 1, 0));
        narrowed(row(0, 0, 9, 9), row(2, 0, 0, 0, 0, 0, 0, 0, 0), 3, row(0, 1, 0, 1));
    }

    private static void habitsStayWithin() {
        Book.test(13, "(So if a HOUSE uses u + v times COLD on each day, u, v whole and within the PRIOR, and is never dry, they stay within.)");
        int[] colds = {3, 0, 17, 40, 1, 1, 0, 8, 22, 39, 5, 6, 0, 0, 2};
        for (int u = 0; u <= 50; u += 10) {
            for (int v = 0; v <= 6; v++) {
                OilRound x = Made.one(5000, 0, 0, 50, 50);
                int used = 0;
                for (int i = 0; i < colds.length; i++) {
                    x.day(colds[i]);
                    used += u + v * colds[i];
                    Book.due("UP of what is there", x.told(0, 4) >= 5000 - used);
                    Book.due("DOWN of what is there", x.told(0, 5) <= 5000 - used);
                    if (i % 3 == 1) continue;
                    x.fill(0, used);
                    used = 0;
                    Book.due("told(0, 8) of " + u + ", " + v, x.told(0, 8), 0);
                    Book.due("u " + u + " is within", x.told(0, 0) <= u && u <= x.told(0, 2));
                    Book.due("v " + v + " is within", x.told(0, 1) <= v && v <= x.told(0, 3));
                }
            }
        }
    }

    private static void afterAFill() {
        Book.test(13, "Then UP and DOWN are what it holds, n and s are 0.");
        int[] fills = {0, 17, 18, 46, 47, 100};
        for (int q : fills) {
            OilRound x = Made.one(100, 4, 1, 8, 3);
            Made.days(x, 10, 0);
            x.fill(0, q);
            Book.due("told(0, 4) after " + q, x.told(0, 4), 100);
            Book.due("told(0, 5) after " + q, x.told(0, 5), 100);
            Book.due("told(0, 9) after " + q, x.told(0, 9), 0);
            Book.due("told(0, 10) after " + q, x.told(0, 10), 0);
            Book.due("told(0, 7) after " + q, x.told(0, 7), 1);
        }
    }

    private static void known() {
        Book.test(19, "KINDS of HOUSES: 0 HOUSE; 1 KNOWN, a HOUSE: three FILLS or more, nothing noted at any;");
        OilRound x = Made.one(1000, 1, 0, 9, 2);
        int[] kinds = {0, 0, 0, 1, 1};
        for (int i = 0; i < kinds.length; i++) {
            Book.due("kind(0) after " + i + " fills", x.kind(0), kinds[i]);
            Book.due("as(0, 1) after " + i + " fills", x.as(0, 1), kinds[i] == 1 ? 1000 : Book.KIND);
            x.day(0);
            x.fill(0, 4);
        }
    }

    private static void knownNeverNoted() {
        Book.test(19, "1 KNOWN, a HOUSE: three FILLS or more, nothing noted at any;");
        // Which of four fills is noted, and what it is then: 0 is LESS, 10 is LEAK.
        int[] notes = {0, 10};
        for (int q : notes) {
            for (int noted = 0; noted < 4; noted++) {
                OilRound x = Made.one(1000, 1, 0, 9, 2);
                for (int i = 0; i < 4; i++) {
                    x.day(0);
                    x.fill(0, i == noted ? q : 4);
                }
                int want = noted == 3 && q == 10 ? 3 : 0;
                Book.due("kind(0), fill " + noted + " was " + q, x.kind(0), want);
                Book.due("as(0, 1), fill " + noted + " was " + q, x.as(0, 1), Book.KIND);
                for (int i = 0; i < 5; i++) x.fill(0, 0);
                Book.due("kind(0) five fills behind it", x.kind(0), 0);
            }
        }
    }

    private static void steady() {
        Book.test(19, "2 STEADY, a KNOWN one: b and d are 0;");
        int[][] priors = {{1, 0, 9, 0, 2}, {0, 0, 0, 0, 2}, {1, 0, 9, 1, 1}, {1, 1, 9, 1, 1}, {1, 1, 9, 50, 1}};
        for (int[] each : priors) {
            OilRound x = Made.one(1000, each[0], each[1], each[2], each[3]);
            for (int i = 1; i <= 3; i++) {
                Book.due("kind(0) ahead of fill " + i, x.kind(0), 0);
                Book.due("as(0, 2) ahead of fill " + i, x.as(0, 2), Book.KIND);
                x.fill(0, 0);
            }
            Book.due("kind(0) with b " + each[1] + ", d " + each[3], x.kind(0), each[4]);
            Book.due("as(0, 2) with b " + each[1] + ", d " + each[3], x.as(0, 2), each[4] == 2 ? 1000 : Book.KIND);
        }
        // d becomes 0 at a fill: steady from then on.
        OilRound y = Made.one(1000, 0, 0, 9, 1);
        for (int i = 0; i < 3; i++) y.fill(0, 0);
        Book.due("kind(0), d is 1", y.kind(0), 1);
        y.day(5);
        y.fill(0, 4);
        Book.due("kind(0), d is 0", y.kind(0), 2);
    }

    private static void leaky() {
        Book.test(19, "3 LEAKY, a HOUSE: the latest FILL was noted LEAK.");
        OilRound x = Made.one(1000, 2, 0, 9, 2);
        Book.due("as(0, 3) ahead of any", x.as(0, 3), Book.KIND);
        x.fill(0, 1);
        Book.due("kind(0), LEAK", x.kind(0), 3);
        Book.due("as(0, 3), LEAK", x.as(0, 3), 1000);
        x.day(0);
        Book.due("kind(0), a day behind it", x.kind(0), 3);
        x.fill(0, 1);
        Book.due("kind(0), LESS", x.kind(0), 0);
        Book.due("as(0, 3), LESS", x.as(0, 3), Book.KIND);
        x.fill(0, 2);
        Book.due("kind(0), LEAK again", x.kind(0), 3);
        x.fill(0, 0);
        Book.due("kind(0), nothing noted", x.kind(0), 0);
    }

    private static void toldAsTheFirstThatFits() {
        Book.test(19, "It is told as the first that fits of LEAKY, STEADY, KNOWN, HOUSE; by this it is asked.");
        OilRound x = Made.kinds();
        for (int house = 0; house < 4; house++) Book.due("kind(" + house + ")", x.kind(house), house);
        int[] firsts = {10, 11, 12, 13};
        for (int house = 0; house < 4; house++) {
            x.ask(house, 0);
            Book.due("trace(0) of " + house, x.trace(0), firsts[house]);
        }
        x.fill(2, 1000);
        Book.due("a steady one leaks", x.kind(2), 3);
        x.fill(1, 1000);
        Book.due("a known one leaks", x.kind(1), 3);
    }

    private static void fillAnswers() {
        Book.test(13, "A FILL: what the HOUSE pays for it.");
        OilRound x = Made.some(3);
        Made.read(x, "house 0 cap 60; house 1 paid 50 @ 20;");
        Book.due("fill(0, 10)", x.fill(0, 10), 600);
        Book.due("fill(1, 30)", x.fill(1, 30), 600);
        Book.due("fill(1, 30)", x.fill(1, 30), 20 * 20 + 10 * 100);
        Book.due("fill(2, 0)", x.fill(2, 0), 0);
        x.price(1000);
        Book.due("fill(2, 1000)", x.fill(2, 1000), 1000000);
        x.price(0);
        Book.due("fill(2, 1000)", x.fill(2, 1000), 0);
        Book.due("count(3)", x.count(3), 100000 - 2070);
        Book.due("count(5)", x.count(5), 2070);
        Book.due("count(6)", x.count(6), 600 + 600 + 1400 + 1000000);
        Made.read(x, "house 2 paid 99999 @ 99999;");
        Book.due("the dearest", x.fill(2, 1000), 99999000);
    }

    private static void fillUpToWhatItHolds() {
        Book.test(13, "BAD: HOUSE, q (0 to what it holds);");
        OilRound x = new OilRound();
        x.stock(100000);
        int[] tanks = {100, 1234, 5000};
        for (int house = 0; house < tanks.length; house++) {
            int holds = tanks[house];
            x.house(0, 0, holds);
            for (int bad : Book.outside(0, holds)) {
                Book.due("fill(" + house + ", " + bad + ")", x.fill(house, bad), Book.BAD);
            }
            Book.due("told(" + house + ", 7)", x.told(house, 7), 0);
            Book.due("fill(" + house + ", 0)", x.fill(house, 0), 0);
            Book.due("fill(" + house + ", " + holds + ")", x.fill(house, holds), 100 * holds);
            Book.due("told(" + house + ", 7)", x.told(house, 7), 2);
        }
    }

    private static void fillBad() {
        Book.test(13, "BAD: HOUSE, q (0 to what it holds);");
        OilRound x = Made.some(2);
        for (int bad : Book.outside(0, 1)) Book.due("fill(" + bad + ", 0)", x.fill(bad, 0), Book.BAD);
        OilRound y = new OilRound();
        Book.due("fill(0, 0) without a house", y.fill(0, 0), Book.BAD);
    }

    private static void fillState() {
        Book.test(13, "STATE: the stock has less.");
        OilRound x = new OilRound();
        x.house(0, 0, 200);
        Book.due("1 of 0", x.fill(0, 1), Book.STATE);
        Book.due("0 of 0", x.fill(0, 0), 0);
        x.stock(150);
        Book.due("151 of 150", x.fill(0, 151), Book.STATE);
        Book.due("200 of 150", x.fill(0, 200), Book.STATE);
        Book.due("told(0, 7)", x.told(0, 7), 1);
        Book.due("150 of 150", x.fill(0, 150), 15000);
        Book.due("count(3)", x.count(3), 0);
        Book.due("1 of 0", x.fill(0, 1), Book.STATE);
        x.stock(1);
        Book.due("1 of 1", x.fill(0, 1), 100);
    }
}
