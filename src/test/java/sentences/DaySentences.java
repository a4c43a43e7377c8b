/** Promises 1 to 7 with part 1 of the terms: houses and days. */
final class DaySentences {
    private DaySentences() {
    }

    static void holdAll() {
        newObject();
        dayNullAtFirst();
        colds();
        twentyFourHouses();
        places();
        tanks();
        fullWhenItComes();
        houseAnswers();
        houseBad();
        houseFull();
        priorAtFirst();
        habit();
        priorWithin();
        priorNarrower();
        priorAnswers();
        priorBad();
        priorAfterFill();
        priorAfterDay();
        span();
        notBelowNull();
        safe();
        due();
        lookAheadAtFirst();
        lookAheadWithin();
        dayAnswers();
        dayBad();
        dayState();
        lookAnswers();
        lookBad();
        toldAnswers();
        toldBad();
        lastsAnswers();
        lastsAtMost();
        lastsOfDryOnes();
        lastsAsDaysDo();
        lastsBad();
    }

    private static void habitIs(OilRound x, int house, int a, int b, int c, int d) {
        Book.due("told(" + house + ", 0)", x.told(house, 0), a);
        Book.due("told(" + house + ", 1)", x.told(house, 1), b);
        Book.due("told(" + house + ", 2)", x.told(house, 2), c);
        Book.due("told(" + house + ", 3)", x.told(house, 3), d);
    }

    private static void spanIs(OilRound x, int house, int up, int down) {
        Book.due("told(" + house + ", 4)", x.told(house, 4), up);
        Book.due("told(" + house + ", 5)", x.told(house, 5), down);
    }

    private static void newObject() {
        Book.test(1, "No HOUSES; day 0.");
        OilRound x = new OilRound();
        Book.due("count(0)", x.count(0), 0);
        Book.due("count(1)", x.count(1), 0);
        for (int house = 0; house < 24; house++) Book.due("told(" + house + ", 0)", x.told(house, 0), Book.BAD);
        Book.due("round(1, 0)", x.round(1, 0), Book.BAD);
        Book.due("calls()", x.calls(), 0);
        Book.due("look(10, 40)", x.look(10, 40), 0);
        Book.due("day(40)", x.day(40), 0);
    }

    private static void dayNullAtFirst() {
        Book.test(1, "DAYS: day 0 is now at first;");
        OilRound x = new OilRound();
        Book.due("count(1)", x.count(1), 0);
        x.house(0, 0, 100);
        Book.due("told(0, 9)", x.told(0, 9), 0);
        x.day(0);
        Book.due("count(1)", x.count(1), 1);
    }

    private static void colds() {
        Book.test(4, "each day has a COLD (0 to 40) as it ends.");
        OilRound x = Made.one(5000, 0, 0, 50, 50);
        for (int bad : Book.outside(0, 40)) Book.due("day(" + bad + ")", x.day(bad), Book.BAD);
        spanIs(x, 0, 5000, 5000);
        Book.due("day(0)", x.day(0), 0);
        spanIs(x, 0, 5000, 4950);
        Book.due("day(40)", x.day(40), 0);
        spanIs(x, 0, 5000, 2900);
    }

    private static void twentyFourHouses() {
        Book.test(2, "HOUSES 0 .. 23 (24 at most)");
        OilRound x = new OilRound();
        for (int i = 0; i < 24; i++) Book.due("house(.., 100 + " + i + ")", x.house(i, i, 100 + i), i);
        Book.due("house(0, 0, 100)", x.house(0, 0, 100), Book.FULL);
        Book.due("count(0)", x.count(0), 24);
        for (int i = 0; i < 24; i++) Book.due("told(" + i + ", 4)", x.told(i, 4), 100 + i);
        for (int bad : Book.outside(0, 23)) Book.due("told(" + bad + ", 4)", x.told(bad, 4), Book.BAD);
    }

    private static void places() {
        Book.test(2, "at places x, y (0 to 50 each)");
        OilRound x = new OilRound();
        for (int bad : Book.outside(0, 50)) {
            Book.due("house(" + bad + ", 7, 100)", x.house(bad, 7, 100), Book.BAD);
            Book.due("house(7, " + bad + ", 100)", x.house(7, bad, 100), Book.BAD);
        }
        int[][] places = {{0, 0}, {50, 50}, {0, 50}, {50, 0}, {25, 0}, {0, 25}, {50, 24}, {26, 50}, {25, 25}};
        int[] ways = {100, 100, 100, 100, 50, 50, 52, 52, 0};
        for (int i = 0; i < places.length; i++) {
            String at = "house(" + places[i][0] + ", " + places[i][1] + ", 100)";
            Book.due(at, x.house(places[i][0], places[i][1], 100), i);
            Book.due(at + ", its way", x.round(1 << i, 0), ways[i]);
        }
    }

    private static void tanks() {
        Book.test(2, "with a TANK that holds so much (100 to 5000 litres)");
        OilRound x = new OilRound();
        for (int bad : Book.outside(100, 5000)) Book.due("house(0, 0, " + bad + ")", x.house(0, 0, bad), Book.BAD);
        Book.due("house(0, 0, 0)", x.house(0, 0, 0), Book.BAD);
        Book.due("house(0, 0, 100)", x.house(0, 0, 100), 0);
        Book.due("house(0, 0, 5000)", x.house(0, 0, 5000), 1);
        Book.due("as(0, 0)", x.as(0, 0), 100);
        Book.due("as(1, 0)", x.as(1, 0), 5000);
    }

    private static void fullWhenItComes() {
        Book.test(2, "full when the HOUSE comes.");
        OilRound x = new OilRound();
        x.house(0, 0, 700);
        spanIs(x, 0, 700, 700);
        Made.days(x, 40, 40);
        x.house(0, 0, 123);
        spanIs(x, 1, 123, 123);
        Book.due("round(2, 2)", x.round(2, 2), 0);
        Book.due("told(1, 9)", x.told(1, 9), 0);
        Book.due("told(1, 10)", x.told(1, 10), 0);
    }

    private static void houseAnswers() {
        Book.test(2, "A HOUSE: its number.");
        OilRound x = new OilRound();
        Book.due("house(1, 2, 100)", x.house(1, 2, 100), 0);
        Book.due("house(1, 2, 100)", x.house(1, 2, 100), 1);
        x.house(99, 2, 100);
        Book.due("house(3, 4, 200)", x.house(3, 4, 200), 2);
        Book.due("told(2, 4)", x.told(2, 4), 200);
    }

    private static void houseBad() {
        Book.test(2, "BAD: x, y, what it holds;");
        OilRound x = new OilRound();
        Book.due("house(-1, 0, 100)", x.house(-1, 0, 100), Book.BAD);
        Book.due("house(51, 0, 100)", x.house(51, 0, 100), Book.BAD);
        Book.due("house(0, -1, 100)", x.house(0, -1, 100), Book.BAD);
        Book.due("house(0, 51, 100)", x.house(0, 51, 100), Book.BAD);
        Book.due("house(0, 0, 99)", x.house(0, 0, 99), Book.BAD);
        Book.due("house(0, 0, 5001)", x.house(0, 0, 5001), Book.BAD);
        Book.due("count(0)", x.count(0), 0);
    }

    private static void houseFull() {
        Book.test(2, "FULL: 24.");
        OilRound x = Made.some(23);
        Book.due("the 24th", x.house(0, 0, 100), 23);
        Book.due("the 25th", x.house(0, 0, 100), Book.FULL);
        Book.due("the 25th again", x.house(50, 50, 5000), Book.FULL);
        Book.due("round(1 << 23, 0)", x.round(1 << 23, 0), 100);
        Book.due("round(1 << 24, 0)", x.round(1 << 24, 0), Book.BAD);
    }

    private static void priorAtFirst() {
        Book.test(2, "(Its PRIOR: a 0, b 0, c 50, d 50.)");
        OilRound x = Made.some(24);
        for (int house = 0; house < 24; house++) habitIs(x, house, 0, 0, 50, 50);
    }

    private static void habit() {
        Book.test(4, "HABIT: a HOUSE uses on a day between LOW and HIGH litres: LOW is a + b times COLD, HIGH is c + d times COLD,");
        OilRound x = Made.one(1000, 3, 2, 10, 5);
        x.day(0);
        spanIs(x, 0, 997, 990);
        x.day(1);
        spanIs(x, 0, 992, 975);
        x.day(40);
        spanIs(x, 0, 909, 765);
    }

    private static void priorWithin() {
        Book.test(3, "a, b, c, d from its PRIOR (0 to 50 each, a not above c, b not above d)");
        OilRound x = Made.some(1);
        for (int bad : Book.outside(0, 50)) {
            Book.due("a " + bad, x.prior(0, bad, 0, 50, 50), Book.BAD);
            Book.due("b " + bad, x.prior(0, 0, bad, 50, 50), Book.BAD);
            Book.due("c " + bad, x.prior(0, 0, 0, bad, 50), Book.BAD);
            Book.due("d " + bad, x.prior(0, 0, 0, 50, bad), Book.BAD);
        }
        Book.due("prior(0, 8, 0, 7, 50)", x.prior(0, 8, 0, 7, 50), Book.BAD);
        Book.due("prior(0, 0, 8, 50, 7)", x.prior(0, 0, 8, 50, 7), Book.BAD);
        habitIs(x, 0, 0, 0, 50, 50);
        Book.due("prior(0, 7, 8, 7, 8)", x.prior(0, 7, 8, 7, 8), 1);
        habitIs(x, 0, 7, 8, 7, 8);
        Book.due("prior(0, 50, 50, 50, 50)", x.prior(0, 50, 50, 50, 50), 1);
        habitIs(x, 0, 50, 50, 50, 50);
        Book.due("prior(0, 0, 0, 0, 0)", x.prior(0, 0, 0, 0, 0), 1);
        habitIs(x, 0, 0, 0, 0, 0);
        Book.due("b above c, d below a", x.prior(0, 5, 9, 6, 9), 1);
        Book.due("a above d", x.prior(0, 9, 1, 9, 2), 1);
        habitIs(x, 0, 9, 1, 9, 2);
    }

    private static void priorNarrower() {
        Book.test(13, "made narrower by FILLS: see 2.");
        OilRound x = Made.one(1000, 0, 0, 50, 50);
        x.day(0);
        spanIs(x, 0, 1000, 950);
        x.fill(0, 20);
        habitIs(x, 0, 20, 0, 20, 50);
        x.day(0);
        spanIs(x, 0, 980, 980);
    }

    private static void priorAnswers() {
        Book.test(3, "The PRIOR of a HOUSE that has had no FILL, on the day on which it came: 1.");
        OilRound x = new OilRound();
        Made.days(x, 1, 2, 3);
        x.house(0, 0, 1000);
        x.house(0, 0, 1000);
        Book.due("prior(0, 1, 2, 3, 4)", x.prior(0, 1, 2, 3, 4), 1);
        habitIs(x, 0, 1, 2, 3, 4);
        habitIs(x, 1, 0, 0, 50, 50);
        Book.due("prior(0, 0, 0, 49, 48)", x.prior(0, 0, 0, 49, 48), 1);
        habitIs(x, 0, 0, 0, 49, 48);
        x.fill(1, 0);
        Book.due("another one's fill, prior(0, 0, 0, 5, 5)", x.prior(0, 0, 0, 5, 5), 1);
        x.fill(0, 9);
        Book.due("a fill that is refused, prior(0, 0, 0, 6, 6)", x.prior(0, 0, 0, 6, 6), 1);
        x.day(-1);
        Book.due("a day that is refused, prior(0, 0, 0, 7, 7)", x.prior(0, 0, 0, 7, 7), 1);
        habitIs(x, 0, 0, 0, 7, 7);
    }

    private static void priorBad() {
        Book.test(3, "BAD: HOUSE, a, b, c, d;");
        OilRound x = Made.some(2);
        for (int bad : Book.outside(0, 1)) Book.due("prior(" + bad + ", ..)", x.prior(bad, 0, 0, 1, 1), Book.BAD);
        Book.due("prior(0, -1, 0, 1, 1)", x.prior(0, -1, 0, 1, 1), Book.BAD);
        Book.due("prior(0, 0, -1, 1, 1)", x.prior(0, 0, -1, 1, 1), Book.BAD);
        Book.due("prior(0, 0, 0, 51, 1)", x.prior(0, 0, 0, 51, 1), Book.BAD);
        Book.due("prior(0, 0, 0, 1, 51)", x.prior(0, 0, 0, 1, 51), Book.BAD);
        Book.due("prior(0, 51, 0, 51, 0)", x.prior(0, 51, 0, 51, 0), Book.BAD);
        Book.due("prior(0, 0, 51, 0, 51)", x.prior(0, 0, 51, 0, 51), Book.BAD);
        Book.due("prior(0, -2, 0, -1, 0)", x.prior(0, -2, 0, -1, 0), Book.BAD);
        Book.due("prior(0, 0, -2, 0, -1)", x.prior(0, 0, -2, 0, -1), Book.BAD);
        habitIs(x, 0, 0, 0, 50, 50);
        habitIs(x, 1, 0, 0, 50, 50);
    }

    private static void priorAfterFill() {
        Book.test(3, "STATE: it has had one, or a day went since it came.");
        OilRound x = Made.some(2);
        x.fill(0, 0);
        Book.due("prior(0, 0, 0, 1, 1)", x.prior(0, 0, 0, 1, 1), Book.STATE);
        habitIs(x, 0, 0, 0, 50, 50);
        Book.due("prior(1, 0, 0, 1, 1)", x.prior(1, 0, 0, 1, 1), 1);
    }

    private static void priorAfterDay() {
        Book.test(3, "STATE: it has had one, or a day went since it came.");
        OilRound x = Made.some(1);
        x.day(0);
        x.house(0, 0, 1000);
        Book.due("prior(0, 0, 0, 1, 1)", x.prior(0, 0, 0, 1, 1), Book.STATE);
        Book.due("prior(1, 0, 0, 1, 1)", x.prior(1, 0, 0, 1, 1), 1);
        habitIs(x, 0, 0, 0, 50, 50);
        // A fill makes the days since it 0; a day went since the house came all the same.
        x.fill(0, 10);
        Book.due("told(0, 9)", x.told(0, 9), 0);
        Book.due("prior(0, 0, 0, 1, 1) then", x.prior(0, 0, 0, 1, 1), Book.STATE);
    }

    private static void span() {
        Book.test(6, "SPAN: what is in the TANK is at most UP, at least DOWN: "
            + "both what it holds when it comes and at each FILL (a FILL fills up);");
        OilRound x = Made.one(600, 1, 1, 5, 2);
        spanIs(x, 0, 600, 600);
        Made.days(x, 10, 20);
        spanIs(x, 0, 568, 530);
        x.fill(0, 50);
        spanIs(x, 0, 600, 600);
        x.day(0);
        x.fill(0, 0);
        spanIs(x, 0, 600, 600);
        x.day(0);
        x.fill(0, 600);
        spanIs(x, 0, 600, 600);
    }

    private static void notBelowNull() {
        Book.test(4, "each day UP is less by LOW, DOWN by HIGH, not below 0.");
        OilRound x = Made.one(100, 20, 0, 33, 0);
        int[][] spans = {{80, 67}, {60, 34}, {40, 1}, {20, 0}, {0, 0}, {0, 0}};
        for (int[] each : spans) {
            x.day(40);
            spanIs(x, 0, each[0], each[1]);
        }
        OilRound y = Made.one(100, 30, 0, 30, 0);
        int[] both = {70, 40, 10, 0, 0};
        for (int each : both) {
            y.day(3);
            spanIs(y, 0, each, each);
        }
        OilRound z = Made.one(100, 0, 0, 50, 50);
        z.day(40);
        spanIs(z, 0, 100, 0);
    }

    private static void safe() {
        Book.test(4, "SAFE: DOWN is more than 0.");
        OilRound x = Made.one(101, 0, 0, 50, 0);
        Book.due("51 left", x.day(0), 0);
        Book.due("1 left", x.day(0), 0);
        Book.due("0 left", x.day(0), 1);
        Book.due("still 0", x.day(0), 1);
        x.fill(0, 101);
        Book.due("51 left again", x.day(0), 0);
        OilRound y = Made.one(100, 0, 0, 50, 0);
        Book.due("50 left", y.day(0), 0);
        Book.due("exactly 0 left", y.day(0), 1);
    }

    private static void due() {
        Book.test(6, "A HOUSE is DUE, if DOWN is not more than as many days' HIGH, with a COLD that is told, as are told");
        OilRound x = Made.one(300, 0, 0, 10, 2);
        Book.due("look(6, 20): 300 of 300", x.look(6, 20), 1);
        Book.due("told(0, 6)", x.told(0, 6), 1);
        Book.due("look(5, 25): 300 of 300", x.look(5, 25), 1);
        Book.due("look(5, 24): 290 of 300", x.look(5, 24), 0);
        Book.due("told(0, 6)", x.told(0, 6), 0);
        x.day(0);
        Book.due("told(0, 6): 290 of 290", x.told(0, 6), 1);
        Book.due("look(4, 31): 288 of 290", x.look(4, 31), 0);
        Book.due("look(0, 40): 0 of 290", x.look(0, 40), 0);
        Made.days(x, 40, 40, 40);
        Book.due("told(0, 6): 0 of 20", x.told(0, 6), 0);
        x.day(5);
        Book.due("told(0, 6): 0 of 0", x.told(0, 6), 1);
    }

    private static void lookAheadAtFirst() {
        Book.test(5, "(LOOKAHEAD, 0 to 10, at first 3, and its COLD, at first 20).");
        OilRound x = new OilRound();
        int[] tanks = {150, 151, 3150, 3151};
        for (int i = 0; i < tanks.length; i++) {
            x.house(0, 0, tanks[i]);
            if (i < 2) x.prior(i, 0, 0, 50, 0);
        }
        Book.due("150 is three days' 50", x.told(0, 6), 1);
        Book.due("151 is more", x.told(1, 6), 0);
        Book.due("3150 is three days' 50 + 50 * 20", x.told(2, 6), 1);
        Book.due("3151 is more", x.told(3, 6), 0);
        Book.due("count(2)", x.count(2), 2);
    }

    private static void lookAheadWithin() {
        Book.test(5, "(LOOKAHEAD, 0 to 10, at first 3, and its COLD, at first 20).");
        OilRound x = Made.one(500, 0, 0, 10, 1);
        for (int bad : Book.outside(0, 10)) Book.due("look(" + bad + ", 0)", x.look(bad, 0), Book.BAD);
        for (int bad : Book.outside(0, 40)) Book.due("look(0, " + bad + ")", x.look(0, bad), Book.BAD);
        Book.due("look(10, 40)", x.look(10, 40), 1);
        Book.due("look(10, 0)", x.look(10, 0), 0);
        Book.due("look(0, 40)", x.look(0, 40), 0);
        Book.due("look(0, 0)", x.look(0, 0), 0);
    }

    private static void dayAnswers() {
        Book.test(4, "A day ends with a COLD: how many HOUSES are not SAFE then.");
        OilRound x = new OilRound();
        Book.due("day(3) without a house", x.day(3), 0);
        for (int i = 0; i < 24; i++) {
            x.house(0, 0, 100 + 10 * i);
            x.prior(i, 0, 0, 50, 0);
        }
        int[] dry = {0, 1, 6, 11, 16, 21, 24, 24};
        for (int each : dry) Book.due("day(40)", x.day(40), each);
        Book.due("count(1)", x.count(1), 9);
        Book.due("told(0, 9)", x.told(0, 9), 8);
        Book.due("told(0, 10)", x.told(0, 10), 320);
    }

    private static void dayBad() {
        Book.test(4, "BAD; STATE: 20000 days went.");
        OilRound x = Made.one(500, 1, 1, 2, 2);
        for (int bad : Book.outside(0, 40)) Book.due("day(" + bad + ")", x.day(bad), Book.BAD);
        Book.due("count(1)", x.count(1), 0);
        Book.due("told(0, 9)", x.told(0, 9), 0);
        Book.due("told(0, 10)", x.told(0, 10), 0);
        spanIs(x, 0, 500, 500);
    }

    /** No run of 512 calls comes to it; the limit is the document's all the same. */
    private static void dayState() {
        Book.test(4, "BAD; STATE: 20000 days went.");
        OilRound x = Made.some(1);
        for (int i = 1; i < 20000; i++) x.day(40);
        Book.due("day 20000", x.day(40), 1);
        Book.due("one more", x.day(40), Book.STATE);
        Book.due("one more, not as told", x.day(41), Book.BAD);
        Book.due("count(1)", x.count(1), 20000);
        Book.due("told(0, 10)", x.told(0, 10), 800000);
        Book.due("fill(0, 1000)", x.fill(0, 1000), 100000);
        Book.due("told(0, 8)", x.told(0, 8), 0);
    }

    private static void lookAnswers() {
        Book.test(5, "LOOKAHEAD and its COLD: how many HOUSES are DUE then.");
        OilRound x = new OilRound();
        Book.due("look(10, 40) without a house", x.look(10, 40), 0);
        for (int i = 0; i < 24; i++) {
            x.house(0, 0, 100 + 10 * i);
            x.prior(i, 0, 0, 2, 1);
        }
        Book.due("look(4, 23): 100", x.look(4, 23), 1);
        Book.due("look(9, 9): 99", x.look(9, 9), 0);
        Book.due("look(10, 12): 140", x.look(10, 12), 5);
        Book.due("count(2)", x.count(2), 5);
        Book.due("look(10, 31): 330", x.look(10, 31), 24);
        Book.due("look(10, 30): 320", x.look(10, 30), 23);
        Book.due("look(9, 34): 324", x.look(9, 34), 23);
    }

    private static void lookBad() {
        Book.test(5, "LOOKAHEAD and its COLD: how many HOUSES are DUE then. BAD.");
        OilRound x = Made.one(150, 0, 0, 50, 0);
        Book.due("look(11, 0)", x.look(11, 0), Book.BAD);
        Book.due("look(0, 41)", x.look(0, 41), Book.BAD);
        Book.due("look(-1, 0)", x.look(-1, 0), Book.BAD);
        Book.due("look(0, -1)", x.look(0, -1), Book.BAD);
        Book.due("as at first", x.told(0, 6), 1);
    }

    private static void toldAnswers() {
        Book.test(6, "Of a HOUSE: 0 a, 1 b, 2 c, 3 d, 4 UP, 5 DOWN, 6 whether it is DUE (1, 0), 7 FILLS, "
            + "8 what was noted of the latest one (0 nothing, 1 LEAK, 2 LESS), 9 n, 10 s.");
        OilRound x = Made.one(1000, 1, 2, 30, 4);
        Made.days(x, 10, 30);
        int[] first = {1, 2, 30, 4, 918, 780, 0, 0, 0, 2, 40};
        for (int what = 0; what <= 10; what++) Book.due("told(0, " + what + ")", x.told(0, what), first[what]);
        x.look(10, 12);
        Book.due("told(0, 6): 780 of 780", x.told(0, 6), 1);
        x.fill(0, 221);
        int[] leak = {1, 2, 30, 4, 1000, 1000, 0, 1, 1, 0, 0};
        for (int what = 0; what <= 10; what++) Book.due("told(0, " + what + ") then", x.told(0, what), leak[what]);
        x.day(1);
        x.fill(0, 2);
        int[] less = {1, 2, 30, 4, 1000, 1000, 0, 2, 2, 0, 0};
        for (int what = 0; what <= 10; what++) Book.due("told(0, " + what + ") again", x.told(0, what), less[what]);
        x.fill(0, 0);
        Book.due("told(0, 7)", x.told(0, 7), 3);
        Book.due("told(0, 8)", x.told(0, 8), 0);
    }

    private static void toldBad() {
        Book.test(6, "9 n, 10 s. BAD.");
        OilRound x = Made.some(2);
        for (int bad : Book.outside(0, 10)) Book.due("told(0, " + bad + ")", x.told(0, bad), Book.BAD);
        for (int bad : Book.outside(0, 1)) Book.due("told(" + bad + ", 0)", x.told(bad, 0), Book.BAD);
        Book.due("told(2, 11)", x.told(2, 11), Book.BAD);
    }

    private static void lastsAnswers() {
        Book.test(7, "How many days from now, each with a COLD (0 to 40), DOWN stays above 0 by the PRIOR as it is");
        OilRound x = Made.one(200, 7, 1, 10, 1);
        Book.due("lasts(0, 0): 200 by 10", x.lasts(0, 0), 19);
        Book.due("lasts(0, 9): 200 by 19", x.lasts(0, 9), 10);
        Book.due("lasts(0, 30): 200 by 40", x.lasts(0, 30), 4);
        Book.due("lasts(0, 40): 200 by 50", x.lasts(0, 40), 3);
        x.day(0);
        Book.due("lasts(0, 0): 190 by 10", x.lasts(0, 0), 18);
        Book.due("lasts(0, 9): 190 by 19", x.lasts(0, 9), 9);
        x.fill(0, 7);
        // The habit is narrower then: c is 7.
        Book.due("lasts(0, 0): 200 by 7", x.lasts(0, 0), 28);
        Book.due("told(0, 5): no day went", x.told(0, 5), 200);
    }

    private static void lastsAtMost() {
        Book.test(7, "(500 at most)");
        int[][] tanks = {{500, 499}, {501, 500}, {502, 500}, {5000, 500}};
        for (int[] each : tanks) {
            OilRound x = Made.one(each[0], 0, 0, 1, 0);
            Book.due("lasts(0, 40) of " + each[0], x.lasts(0, 40), each[1]);
        }
        OilRound y = Made.one(100, 0, 0, 0, 1);
        Book.due("lasts(0, 0) with HIGH 0", y.lasts(0, 0), 500);
        Book.due("lasts(0, 1)", y.lasts(0, 1), 99);
    }

    private static void lastsOfDryOnes() {
        Book.test(7, "DOWN stays above 0 by the PRIOR as it is");
        OilRound x = Made.one(101, 0, 0, 0, 50);
        x.day(2);
        Book.due("one litre, lasts(0, 0)", x.lasts(0, 0), 500);
        Book.due("one litre, lasts(0, 1)", x.lasts(0, 1), 0);
        x.day(1);
        Book.due("dry, lasts(0, 0)", x.lasts(0, 0), 0);
        Book.due("dry, lasts(0, 40)", x.lasts(0, 40), 0);
    }

    private static void lastsAsDaysDo() {
        Book.test(7, "How many days from now, each with a COLD (0 to 40), DOWN stays above 0 by the PRIOR as it is");
        for (int holds = 100; holds <= 130; holds++) {
            OilRound x = Made.one(holds, 0, 0, 4, 2);
            int told = x.lasts(0, 3);
            for (int day = 1; day <= told; day++) Book.due("day " + day + " of " + told + ", " + holds, x.day(3), 0);
            Book.due("the day behind " + told + ", " + holds, x.day(3), 1);
        }
    }

    private static void lastsBad() {
        Book.test(7, "(500 at most). BAD.");
        OilRound x = Made.some(2);
        for (int bad : Book.outside(0, 40)) Book.due("lasts(0, " + bad + ")", x.lasts(0, bad), Book.BAD);
        for (int bad : Book.outside(0, 1)) Book.due("lasts(" + bad + ", 0)", x.lasts(bad, 0), Book.BAD);
    }
}
