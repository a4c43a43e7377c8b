/** Promises 8 to 12 with part 3 of the terms: the depot's stock, lorries, calls and rounds. */
final class RoundSentences {
    private static final String WHO = "in order of how many days they can go at HIGH with the told COLD (DOWN by HIGH, cut; HIGH 0: 1000), "
        + "the fewest first, then by numbers, each taken if the need of all so far and its own are L or less and there are fewer than 8.";

    private RoundSentences() {
    }

    static void holdAll() {
        depot();
        stockAtFirst();
        stockWithin();
        lorryAtFirst();
        lorryWithin();
        ways();
        setsOfOneToEight();
        shortestWay();
        leastNumbers();
        mayGoByTheLorry();
        mayGoByTheStock();
        needAtMost();
        whoIsDue();
        fewestDaysFirst();
        daysAreCut();
        daysByTheToldCold();
        highNull();
        thenByNumbers();
        needOfAllSoFar();
        fewerThanEight();
        stockAnswers();
        stockBad();
        lorryAnswers();
        lorryBad();
        callsAnswers();
        roundAnswers();
        roundBadSet();
        roundBadWhat();
        stopAnswers();
        stopNone();
        stopBad();
    }

    /** Houses with these tanks and with HIGHs that no cold changes; no day went. */
    private static OilRound withUse(int[] tanks, int[] highs) {
        OilRound x = new OilRound();
        for (int i = 0; i < tanks.length; i++) {
            x.house(25, 25, tanks[i]);
            x.prior(i, 0, 0, highs[i], 0);
        }
        return x;
    }

    private static OilRound atPlaces(int... places) {
        OilRound x = new OilRound();
        for (int i = 0; i + 1 < places.length; i += 2) x.house(places[i], places[i + 1], 100);
        return x;
    }

    private static void stopsAre(OilRound x, int set, int... houses) {
        for (int i = 0; i < houses.length; i++) Book.due("stop(" + set + ", " + i + ")", x.stop(set, i), houses[i]);
        Book.due("stop(" + set + ", " + houses.length + ")", x.stop(set, houses.length), Book.NONE);
    }

    private static void depot() {
        Book.test(11, "ROUNDS: the DEPOT is at 25, 25,");
        OilRound x = atPlaces(25, 25, 26, 25, 25, 24, 0, 25, 25, 50);
        int[] ways = {0, 2, 2, 50, 50};
        for (int i = 0; i < ways.length; i++) Book.due("round(1 << " + i + ", 0)", x.round(1 << i, 0), ways[i]);
    }

    private static void stockAtFirst() {
        Book.test(8, "with a stock (0 to 100000 litres, 0 at first);");
        OilRound x = new OilRound();
        Book.due("count(3)", x.count(3), 0);
        Book.due("stock(0)", x.stock(0), 0);
    }

    private static void stockWithin() {
        Book.test(8, "with a stock (0 to 100000 litres, 0 at first);");
        OilRound x = new OilRound();
        Book.due("stock(100001)", x.stock(100001), Book.BAD);
        Book.due("stock(100000)", x.stock(100000), 100000);
        Book.due("stock(1)", x.stock(1), Book.BAD);
        Book.due("stock(0)", x.stock(0), 100000);
        x.house(0, 0, 5000);
        for (int i = 0; i < 20; i++) x.fill(0, 5000);
        Book.due("count(3)", x.count(3), 0);
        Book.due("fill(0, 1)", x.fill(0, 1), Book.STATE);
        Book.due("stock(100000) again", x.stock(100000), 100000);
        Book.due("count(4)", x.count(4), 200000);
    }

    private static void lorryAtFirst() {
        Book.test(9, "a LORRY holds L (100 to 9000, at first 3000).");
        // Need 3000 and 3001: what a lorry may carry at first.
        OilRound x = Made.some(6);
        for (int i = 3; i < 6; i++) x.prior(i, 0, 0, i == 5 ? 1 : 0, 0);
        x.day(40);
        Book.due("round(7, 2)", x.round(7, 2), 3000);
        Book.due("round(7, 1)", x.round(7, 1), 1);
        Book.due("round(39, 2)", x.round(39, 2), 3001);
        Book.due("round(39, 1)", x.round(39, 1), 0);
        Book.due("lorry(3000)", x.lorry(3000), 3000);
    }

    private static void lorryWithin() {
        Book.test(9, "a LORRY holds L (100 to 9000, at first 3000).");
        OilRound x = new OilRound();
        for (int bad : Book.outside(100, 9000)) Book.due("lorry(" + bad + ")", x.lorry(bad), Book.BAD);
        Book.due("lorry(0)", x.lorry(0), Book.BAD);
        Book.due("lorry(100)", x.lorry(100), 3000);
        Book.due("lorry(9000)", x.lorry(9000), 100);
        Book.due("lorry(101)", x.lorry(101), 9000);
    }

    private static void ways() {
        Book.test(11, "WAYS: the difference of x and that of y, added.");
        OilRound x = atPlaces(30, 28, 20, 28, 30, 21, 19, 18, 0, 0, 50, 50);
        int[] ways = {16, 16, 18, 26, 100, 100};
        for (int i = 0; i < ways.length; i++) Book.due("round(1 << " + i + ", 0)", x.round(1 << i, 0), ways[i]);
        // From 0, 0 to 50, 50 there are 100, with 50 ahead and 50 behind.
        Book.due("round(48, 0)", x.round(48, 0), 200);
        // 30, 28 to 19, 18 is 21, with 8 ahead and 13 behind.
        Book.due("round(9, 0)", x.round(9, 0), 42);
    }

    private static void setsOfOneToEight() {
        Book.test(11, "A ROUND is told for a set of HOUSES (bits; 1 to 8 of them):");
        OilRound x = new OilRound();
        for (int i = 0; i < 24; i++) x.house(25 + i, 25, 100);
        for (int size = 1; size <= 8; size++) {
            int low = (1 << size) - 1;
            int high = low << 24 - size;
            Book.due("round(" + low + ", 0)", x.round(low, 0), 2 * (size - 1));
            Book.due("round(" + high + ", 0)", x.round(high, 0), 46);
            Book.due("stop(" + high + ", " + (size - 1) + ")", x.stop(high, size - 1), 23);
        }
        Book.due("round(0, 0)", x.round(0, 0), Book.BAD);
        Book.due("round(511, 0)", x.round(511, 0), Book.BAD);
        Book.due("round(0xffffff, 0)", x.round(0xffffff, 0), Book.BAD);
        Book.due("round(0x800001, 0)", x.round(0x800001, 0), 46);
        Book.due("round(0x801fe0, 0)", x.round(0x801fe0, 0), Book.BAD);
    }

    private static void shortestWay() {
        Book.test(11, "the shortest way from the DEPOT to each of them and back,");
        // The nearest first is the longer way: 27, 20, 35, then back is 2 + 7 + 15 + 10.
        OilRound x = atPlaces(27, 25, 20, 25, 35, 25);
        Book.due("round(7, 0)", x.round(7, 0), 30);
        // A ring of eight, told crosswise: its way is that round the square.
        OilRound y = atPlaces(15, 15, 35, 35, 15, 35, 35, 15, 25, 15, 25, 35, 15, 25, 35, 25);
        Book.due("round(255, 0)", y.round(255, 0), 100);
        againstAllOrders();
    }

    private static void leastNumbers() {
        Book.test(12, "of several the one with the least numbers from the first on.");
        stopsAre(atPlaces(25, 35, 25, 30), 3, 0, 1);
        stopsAre(atPlaces(25, 30, 25, 35), 3, 0, 1);
        stopsAre(atPlaces(25, 25, 25, 25, 25, 25, 25, 25, 25, 25, 25, 25, 25, 25, 25, 25), 255, 0, 1, 2, 3, 4, 5, 6, 7);
        // A square's corners: both ways round are 80, the one by 1 first.
        stopsAre(atPlaces(35, 25, 25, 35, 35, 35), 7, 0, 2, 1);
        stopsAre(atPlaces(35, 35, 25, 35, 35, 25), 7, 1, 0, 2);
        // The shortest by far begins with the greatest number or ends with it.
        stopsAre(atPlaces(50, 25, 24, 25, 0, 25), 7, 0, 1, 2);
        stopsAre(atPlaces(0, 0, 50, 50, 25, 26), 7, 0, 1, 2);
    }

    /** Rounds by several sets against all orders, tried by numbers in turn. */
    private static void againstAllOrders() {
        int[] places = {3, 10, 48, 20, 25, 10, 11, 10, 30, 20, 25, 20, 2, 30, 48, 30, 30, 30, 11, 20};
        OilRound x = atPlaces(places);
        int[] sets = {3, 7, 0x20d, 0x3c3, 0x155, 0x2aa, 0xff, 0x3fc, 0x1ef, 0x37d};
        for (int set : sets) {
            int[] best = new int[Integer.bitCount(set) + 1];
            best[0] = Book.MOST;
            tryOrders(set, 0, new int[best.length - 1], places, best);
            Book.due("round(" + set + ", 0)", x.round(set, 0), best[0]);
            for (int i = 1; i < best.length; i++) Book.due("stop(" + set + ", " + (i - 1) + ")", x.stop(set, i - 1), best[i]);
        }
    }

    private static void tryOrders(int left, int size, int[] order, int[] places, int[] best) {
        for (int house = 0; house < 10; house++) {
            if ((left >> house & 1) == 0) continue;
            order[size] = house;
            tryOrders(left & ~(1 << house), size + 1, order, places, best);
        }
        if (left != 0) return;
        int way = 0;
        int atX = 25;
        int atY = 25;
        for (int house : order) {
            way += Math.abs(places[2 * house] - atX) + Math.abs(places[2 * house + 1] - atY);
            atX = places[2 * house];
            atY = places[2 * house + 1];
        }
        way += Math.abs(25 - atX) + Math.abs(25 - atY);
        if (way >= best[0]) return;
        best[0] = way;
        System.arraycopy(order, 0, best, 1, order.length);
    }

    private static void mayGoByTheLorry() {
        Book.test(11, "It MAY go, if what they can need at most (each: what it holds, less DOWN), added, is L or less and the stock has it.");
        OilRound x = Made.some(2);
        x.day(9);
        int[] lorries = {999, 1000, 1001, 9000, 100};
        int[] may = {0, 1, 1, 1, 0};
        for (int i = 0; i < lorries.length; i++) {
            x.lorry(lorries[i]);
            Book.due("round(3, 1) with a lorry of " + lorries[i], x.round(3, 1), may[i]);
        }
    }

    private static void mayGoByTheStock() {
        Book.test(11, "It MAY go, if what they can need at most (each: what it holds, less DOWN), added, is L or less and the stock has it.");
        OilRound x = new OilRound();
        x.house(0, 0, 1000);
        x.house(0, 0, 600);
        Book.due("nothing is needed, nothing is there", x.round(3, 1), 1);
        x.day(9);
        Book.due("round(3, 1) with no stock", x.round(3, 1), 0);
        x.stock(999);
        Book.due("round(3, 1) with 999", x.round(3, 1), 0);
        x.stock(1);
        Book.due("round(3, 1) with 1000", x.round(3, 1), 1);
        x.stock(1);
        Book.due("round(3, 1) with 1001", x.round(3, 1), 1);
        x.fill(0, 2);
        Book.due("round(3, 1) with 999, 500 needed", x.round(3, 1), 1);
    }

    private static void needAtMost() {
        Book.test(11, "(each: what it holds, less DOWN)");
        OilRound x = withUse(new int[] {1000, 300, 120}, new int[] {10, 0, 50});
        Book.due("round(7, 2) of full ones", x.round(7, 2), 0);
        Made.days(x, 1, 2, 3);
        Book.due("round(1, 2)", x.round(1, 2), 30);
        Book.due("round(2, 2)", x.round(2, 2), 0);
        Book.due("round(4, 2): dry", x.round(4, 2), 120);
        Book.due("round(7, 2)", x.round(7, 2), 150);
        // UP counts for nothing.
        Book.due("told(0, 4)", x.told(0, 4), 1000);
        OilRound y = Made.some(0);
        for (int i = 0; i < 8; i++) y.house(0, 0, 5000);
        Made.days(y, 40, 40, 40);
        Book.due("round(255, 2)", y.round(255, 2), 40000);
        y.lorry(9000);
        Book.due("round(255, 1)", y.round(255, 1), 0);
        Book.due("round(1, 1)", y.round(1, 1), 1);
    }

    private static void whoIsDue() {
        Book.test(10, "WHO: those that are DUE; chosen by CALLS, of these:");
        OilRound x = withUse(new int[] {150, 151, 100, 200}, new int[] {50, 50, 0, 49});
        Book.due("three days: the first alone", x.calls(), 1);
        x.look(4, 0);
        Book.due("four days: two of 50", x.calls(), 3);
        x.look(5, 0);
        Book.due("five days: the last, too", x.calls(), 11);
        x.look(0, 0);
        Book.due("no days", x.calls(), 0);
        Book.due("count(2)", x.count(2), 0);
    }

    private static void fewestDaysFirst() {
        Book.test(10, WHO);
        // DOWN 620, 240, 50: 31, 6 and 1 days; the first of them needs 380, 760, 950.
        OilRound x = withUse(new int[] {1000, 1000, 1000}, new int[] {20, 40, 50});
        for (int i = 0; i < 19; i++) x.day(0);
        x.look(10, 0);
        Book.due("count(2)", x.count(2), 2);
        x.lorry(1000);
        Book.due("one day goes ahead of six", x.calls(), 4);
        x.lorry(1710);
        Book.due("both", x.calls(), 6);
        // DOWN 250, 300, 50, 200: 5, 6, 1 and 4 days; each needs 100. The fewest are not the first, nor behind one with fewer.
        OilRound y = withUse(new int[] {350, 400, 150, 300}, new int[] {50, 50, 50, 50});
        Made.days(y, 0, 0);
        y.look(10, 0);
        int[] sets = {4, 4 + 8, 4 + 8 + 1, 4 + 8 + 1 + 2};
        for (int i = 0; i < sets.length; i++) {
            y.lorry(100 + 100 * i);
            Book.due("so many of the fewest days: " + (i + 1), y.calls(), sets[i]);
        }
    }

    private static void daysAreCut() {
        Book.test(10, WHO);
        // DOWN 200 by 40 is 5, 299 by 50 is 5, cut: the first number goes ahead, though 299 by 50 is more.
        OilRound x = withUse(new int[] {349, 240}, new int[] {50, 40});
        x.day(0);
        x.look(10, 0);
        x.lorry(100);
        Book.due("needs 50 and 40: both", x.calls(), 3);
        OilRound y = withUse(new int[] {399, 280}, new int[] {50, 40});
        Made.days(y, 0, 0);
        y.look(10, 0);
        y.lorry(100);
        Book.due("needs 100 and 80: the first alone", y.calls(), 1);
        // DOWN 300 by 50 is 6: now the second goes ahead.
        OilRound z = withUse(new int[] {400, 280}, new int[] {50, 40});
        Made.days(z, 0, 0);
        z.look(10, 0);
        z.lorry(100);
        Book.due("the second alone", z.calls(), 2);
    }

    private static void daysByTheToldCold() {
        Book.test(10, WHO);
        OilRound x = new OilRound();
        x.house(0, 0, 200);
        x.prior(0, 0, 0, 20, 0);
        x.house(0, 0, 200);
        x.prior(1, 0, 0, 10, 1);
        Made.days(x, 0, 0, 0, 0, 0);
        x.lorry(100);
        // DOWN 100, 150.
        x.look(10, 0);
        Book.due("5 days and 15 at cold 0", x.calls(), 1);
        x.look(10, 20);
        Book.due("5 days and 5 at cold 20", x.calls(), 1);
        x.look(10, 40);
        Book.due("5 days and 3 at cold 40", x.calls(), 2);
    }

    private static void highNull() {
        Book.test(10, "HIGH 0: 1000");
        // The first is dry and uses nothing at cold 0: DUE, but behind the second, that can go 9 days.
        OilRound x = new OilRound();
        x.house(0, 0, 100);
        x.prior(0, 0, 0, 0, 50);
        x.house(0, 0, 100);
        x.prior(1, 0, 0, 10, 0);
        x.day(2);
        x.look(10, 0);
        x.lorry(100);
        Book.due("told(0, 5)", x.told(0, 5), 0);
        Book.due("lorry of 100", x.calls(), 2);
        x.lorry(110);
        Book.due("lorry of 110", x.calls(), 3);
        x.look(10, 1);
        x.lorry(100);
        Book.due("at cold 1: 0 days go ahead", x.calls(), 1);
        // HIGH 1 is no HIGH 0: DOWN 4 by 1 is 4 days, ahead of DOWN 50 by 10.
        OilRound y = new OilRound();
        y.house(0, 0, 100);
        y.prior(0, 0, 0, 10, 0);
        y.house(0, 0, 100);
        y.prior(1, 0, 0, 0, 1);
        Made.days(y, 40, 40, 16, 0, 0);
        y.look(10, 1);
        y.lorry(100);
        Book.due("HIGH 1", y.calls(), 2);
    }

    private static void thenByNumbers() {
        Book.test(10, WHO);
        OilRound x = withUse(new int[] {150, 150, 150}, new int[] {50, 50, 50});
        x.day(0);
        x.lorry(100);
        Book.due("two of three equal ones", x.calls(), 3);
        x.stock(50);
        x.fill(0, 50);
        Book.due("told(0, 6) of the full one", x.told(0, 6), 1);
        Book.due("the full one needs nothing", x.calls(), 7);
    }

    private static void needOfAllSoFar() {
        Book.test(10, WHO);
        // Needs 50, 150, 60, all dry in a day: what does not fit is left out, what is behind it may fit.
        OilRound x = withUse(new int[] {100, 150, 110}, new int[] {50, 50, 30});
        Made.days(x, 0);
        x.look(10, 0);
        Book.due("needs", x.round(7, 2), 130);
        Book.due("all in 3000", x.calls(), 7);
        x.lorry(130);
        Book.due("all in 130", x.calls(), 7);
        x.lorry(129);
        Book.due("129: the last is left out", x.calls(), 3);
        OilRound y = withUse(new int[] {200, 150, 100}, new int[] {50, 50, 10});
        Made.days(y, 0, 0, 0);
        y.look(10, 0);
        y.lorry(100);
        // Days 1, 0, 7; needs 150, 150, 30.
        Book.due("two that do not fit, one that does", y.calls(), 4);
        y.lorry(179);
        Book.due("the second, then no room for 30", y.calls(), 2);
        y.lorry(180);
        Book.due("the second and the last", y.calls(), 6);
        y.lorry(330);
        Book.due("all", y.calls(), 7);
    }

    private static void fewerThanEight() {
        Book.test(10, WHO);
        OilRound x = new OilRound();
        for (int i = 0; i < 24; i++) x.house(0, 0, 100 + i);
        Book.due("eight of 24, nothing needed", x.calls(), 255);
        x.day(40);
        x.lorry(9000);
        Book.due("eight of 24 dry ones", x.calls(), 255);
        x.lorry(131);
        Book.due("100 alone", x.calls(), 1);
        for (int i = 0; i < 24; i++) x.fill(i, 0);
        x.look(1, 0);
        Book.due("none is due", x.calls(), 0);
        // Seven that fit, then one that does not, then the eighth.
        OilRound y = new OilRound();
        for (int i = 0; i < 10; i++) y.house(0, 0, i == 7 ? 101 : 100);
        y.day(40);
        y.lorry(800);
        Book.due("800 litres", y.calls(), 127 + 256);
        y.lorry(801);
        Book.due("801 litres", y.calls(), 255);
        // 23 that do not fit hide no last one that does.
        OilRound z = new OilRound();
        for (int i = 0; i < 24; i++) z.house(0, 0, i < 23 ? 201 : 200);
        z.day(40);
        z.lorry(200);
        Book.due("the last of 24", z.calls(), 1 << 23);
    }

    private static void stockAnswers() {
        Book.test(8, "So much comes to the DEPOT: the stock.");
        OilRound x = new OilRound();
        Book.due("stock(7)", x.stock(7), 7);
        Book.due("stock(40000)", x.stock(40000), 40007);
        x.house(0, 0, 100);
        x.fill(0, 30);
        Book.due("stock(1)", x.stock(1), 39978);
        Book.due("count(3)", x.count(3), 39978);
        Book.due("count(4)", x.count(4), 40008);
    }

    private static void stockBad() {
        Book.test(8, "BAD: below 0, above 100000 in all.");
        OilRound x = new OilRound();
        int[] bads = {-1, -100000, 100001, 200000, Book.LEAST, Book.MOST};
        for (int bad : bads) Book.due("stock(" + bad + ")", x.stock(bad), Book.BAD);
        x.stock(60000);
        for (int bad : bads) Book.due("stock(" + bad + ") at 60000", x.stock(bad), Book.BAD);
        Book.due("stock(40001) at 60000", x.stock(40001), Book.BAD);
        Book.due("stock(40000) at 60000", x.stock(40000), 100000);
        for (int bad : bads) Book.due("stock(" + bad + ") at 100000", x.stock(bad), Book.BAD);
        Book.due("stock(1) at 100000", x.stock(1), Book.BAD);
        Book.due("count(4)", x.count(4), 100000);
    }

    private static void lorryAnswers() {
        Book.test(9, "What a LORRY holds: what it held.");
        OilRound x = new OilRound();
        Book.due("lorry(500)", x.lorry(500), 3000);
        Book.due("lorry(600)", x.lorry(600), 500);
        Book.due("lorry(600)", x.lorry(600), 600);
    }

    private static void lorryBad() {
        Book.test(9, "What a LORRY holds: what it held. BAD.");
        OilRound x = new OilRound();
        Book.due("lorry(99)", x.lorry(99), Book.BAD);
        Book.due("lorry(9001)", x.lorry(9001), Book.BAD);
        Book.due("lorry(3000)", x.lorry(3000), 3000);
    }

    private static void callsAnswers() {
        Book.test(10, "CALLS: the set of HOUSES (2 to the power of each, added; 0: none).");
        OilRound x = new OilRound();
        Book.due("calls() without a house", x.calls(), 0);
        for (int i = 0; i < 24; i++) {
            x.house(0, 0, 5000);
            x.prior(i, 0, 0, 0, 0);
        }
        Book.due("calls(), none is due", x.calls(), 0);
        OilRound y = new OilRound();
        for (int i = 0; i < 24; i++) {
            y.house(0, 0, 100);
            if (i != 0 && i != 5 && i != 23) y.prior(i, 0, 0, 0, 0);
        }
        Book.due("calls(), 0, 5 and 23 are due", y.calls(), 1 + 32 + (1 << 23));
        y.day(40);
        y.lorry(100);
        Book.due("calls(), one fits", y.calls(), 1);
        y.stock(200);
        y.fill(0, 100);
        y.fill(5, 100);
        Book.due("calls(), two need nothing", y.calls(), 1 + 32 + (1 << 23));
    }

    private static void roundAnswers() {
        Book.test(11, "A ROUND by a set: 0 its way, 1 whether it MAY go (1, 0), 2 what they can need at most.");
        OilRound x = new OilRound();
        x.house(20, 20, 1000);
        x.house(30, 30, 400);
        x.prior(0, 0, 0, 6, 0);
        x.prior(1, 0, 0, 5, 1);
        x.day(4);
        Book.due("round(3, 0)", x.round(3, 0), 40);
        Book.due("round(3, 1)", x.round(3, 1), 0);
        Book.due("round(3, 2)", x.round(3, 2), 15);
        x.stock(15);
        Book.due("round(3, 1) with 15", x.round(3, 1), 1);
        Book.due("round(2, 0)", x.round(2, 0), 20);
        Book.due("round(2, 2)", x.round(2, 2), 9);
    }

    private static void roundBadSet() {
        Book.test(11, "BAD: the set (empty, a HOUSE that is not there, more than 8), what.");
        OilRound x = new OilRound();
        for (int houses = 0; houses <= 24; houses++) {
            int[] sets = {0, 1 << houses, 1 << houses | 1, 1 << 30, Book.LEAST, Book.LEAST + 1, -1, Book.MOST, ~1};
            for (int set : sets) {
                for (int what = 0; what <= 2 && houses % 6 == 0; what++) {
                    Book.due("round(" + set + ", " + what + ") of " + houses, x.round(set, what), Book.BAD);
                }
            }
            Book.due("a house", x.house(0, 0, 100), houses < 24 ? houses : Book.FULL);
        }
        int[] nines = {0x1ff, 0x1ff << 15, 0xffffff, 0x555555, 0x8000ff};
        for (int set : nines) Book.due("round(" + set + ", 0)", x.round(set, 0), Book.BAD);
    }

    private static void roundBadWhat() {
        Book.test(11, "BAD: the set (empty, a HOUSE that is not there, more than 8), what.");
        OilRound x = Made.some(2);
        for (int bad : Book.outside(0, 2)) {
            Book.due("round(1, " + bad + ")", x.round(1, bad), Book.BAD);
            Book.due("round(0, " + bad + ")", x.round(0, bad), Book.BAD);
        }
    }

    private static void stopAnswers() {
        Book.test(12, "HOUSE i on the ROUND by a set;");
        OilRound x = atPlaces(50, 25, 0, 25, 49, 25, 1, 25);
        stopsAre(x, 15, 0, 2, 1, 3);
        stopsAre(x, 14, 1, 3, 2);
        stopsAre(x, 8, 3);
        stopsAre(x, 5, 0, 2);
        stopsAre(x, 15, 0, 2, 1, 3);
        // A house that comes changes no round of the others.
        x.house(25, 25, 100);
        stopsAre(x, 15, 0, 2, 1, 3);
        stopsAre(x, 16, 4);
    }

    private static void stopNone() {
        Book.test(12, "NONE: there are not so many.");
        OilRound x = new OilRound();
        for (int i = 0; i < 8; i++) x.house(i, 0, 100);
        int[] sets = {1, 128, 3, 255};
        for (int set : sets) {
            int size = Integer.bitCount(set);
            Book.due("stop(" + set + ", " + (size - 1) + ") is a house", x.stop(set, size - 1) >= 0);
            Book.due("stop(" + set + ", " + size + ")", x.stop(set, size), Book.NONE);
            Book.due("stop(" + set + ", 9)", x.stop(set, 9), Book.NONE);
            Book.due("stop(" + set + ", 256)", x.stop(set, 256), Book.NONE);
            Book.due("stop(" + set + ", MOST)", x.stop(set, Book.MOST), Book.NONE);
            Book.due("stop(" + set + ", -1)", x.stop(set, -1), Book.NONE);
            Book.due("stop(" + set + ", LEAST)", x.stop(set, Book.LEAST), Book.NONE);
        }
    }

    private static void stopBad() {
        Book.test(12, "BAD: the set.");
        OilRound x = new OilRound();
        Book.due("stop(1, 0) without a house", x.stop(1, 0), Book.BAD);
        for (int i = 0; i < 9; i++) x.house(i, 0, 100);
        int[] sets = {0, 512, 513, 511, -1, Book.LEAST, Book.LEAST + 1, Book.MOST, 1 << 24};
        for (int set : sets) {
            Book.due("stop(" + set + ", 0)", x.stop(set, 0), Book.BAD);
            Book.due("stop(" + set + ", 99)", x.stop(set, 99), Book.BAD);
        }
        Book.due("stop(510, 0)", x.stop(510, 0), 1);
    }
}
