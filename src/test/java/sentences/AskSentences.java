/** Promises 19 to 23 with part 5 of the terms: kinds, asks, the trace, what is counted. */
final class AskSentences {
    private static final String BODY_OF_THE_KIND = "(Of an ask the BODY told for the KIND begins, else that of the nearest KIND that it is, too, "
        + "else the one that is lent; WEIGHT within another one is asked of the same HOUSE anew.)";

    private AskSentences() {
    }

    static void holdAll() {
        kindAnswers();
        kindBad();
        asAnswers();
        asEachKind();
        asBad();
        asKind();
        weightLent();
        weightOfKnown();
        weightOfSteady();
        weightOfLeaky();
        markLent();
        markOfKnown();
        markOfLeaky();
        nearestKind();
        weightAskedAnew();
        bodiesAsTheyBegin();
        traceOfSixteen();
        askAnswers();
        askBad();
        traceEmptyAhead();
        traceStays();
        traceAnswers();
        traceNone();
        countAnswers();
        countOfNothing();
        countDue();
        countBeyondAnInt();
        countBad();
    }

    private static void traceIs(OilRound x, int... bodies) {
        for (int i = 0; i < bodies.length; i++) Book.due("trace(" + i + ")", x.trace(i), bodies[i]);
        for (int i = bodies.length; i < 17; i++) Book.due("trace(" + i + ")", x.trace(i), Book.NONE);
    }

    private static void asked(OilRound x, int house, int what, int want, int... bodies) {
        Book.due("ask(" + house + ", " + what + ")", x.ask(house, what), want);
        traceIs(x, bodies);
    }

    private static void kindAnswers() {
        Book.test(19, "The KIND of a HOUSE, as it is told.");
        OilRound x = Made.kinds();
        for (int house = 0; house < 4; house++) Book.due("kind(" + house + ")", x.kind(house), house);
        x.house(0, 0, 100);
        Book.due("kind(4) of one just come", x.kind(4), 0);
    }

    private static void kindBad() {
        Book.test(19, "The KIND of a HOUSE, as it is told. BAD.");
        OilRound x = new OilRound();
        Book.due("kind(0) without a house", x.kind(0), Book.BAD);
        x.house(0, 0, 100);
        for (int bad : Book.outside(0, 0)) Book.due("kind(" + bad + ")", x.kind(bad), Book.BAD);
        for (int i = 1; i < 24; i++) x.house(0, 0, 100);
        Book.due("kind(23)", x.kind(23), 0);
        Book.due("kind(24)", x.kind(24), Book.BAD);
    }

    private static void asAnswers() {
        Book.test(20, "A HOUSE is taken as one of a KIND (0 .. 3): what its TANK holds.");
        OilRound x = Made.kinds();
        for (int house = 0; house < 4; house++) {
            Book.due("as(" + house + ", 0)", x.as(house, 0), 1000 + house);
            Book.due("as(" + house + ", " + house + ")", x.as(house, house), 1000 + house);
        }
        x.day(40);
        Book.due("as(2, 2), the day behind", x.as(2, 2), 1002);
    }

    private static void asEachKind() {
        Book.test(20, "KIND: it is not that, too.");
        OilRound x = Made.kinds();
        boolean[][] is = {{true, false, false, false}, {true, true, false, false}, {true, true, true, false}, {true, false, false, true}};
        for (int house = 0; house < 4; house++) {
            for (int kind = 0; kind < 4; kind++) {
                Book.due("as(" + house + ", " + kind + ")", x.as(house, kind), is[house][kind] ? 1000 + house : Book.KIND);
            }
        }
    }

    private static void asBad() {
        Book.test(20, "BAD; KIND: it is not that, too.");
        OilRound x = Made.kinds();
        for (int bad : Book.outside(0, 3)) {
            Book.due("as(0, " + bad + ")", x.as(0, bad), Book.BAD);
            Book.due("as(" + bad + ", 0)", x.as(bad, 0), Book.BAD);
        }
    }

    private static void asKind() {
        Book.test(20, "BAD; KIND: it is not that, too.");
        OilRound x = Made.some(1);
        for (int kind = 1; kind <= 3; kind++) Book.due("as(0, " + kind + ") of one just come", x.as(0, kind), Book.KIND);
        x.fill(0, 1);
        Book.due("as(0, 3)", x.as(0, 3), 1000);
        Book.due("as(0, 1)", x.as(0, 1), Book.KIND);
        x.fill(0, 0);
        Book.due("as(0, 3) then", x.as(0, 3), Book.KIND);
    }

    private static void weightLent() {
        Book.test(21, "0 WEIGHT: 10 lent to all HOUSES: UP less DOWN.");
        OilRound x = Made.one(1000, 2, 1, 10, 3);
        asked(x, 0, 0, 0, 10);
        Made.days(x, 10, 0);
        asked(x, 0, 0, 36, 10);
        x.fill(0, 10);
        asked(x, 0, 0, 0, 10);
        OilRound y = Made.some(1);
        y.day(40);
        asked(y, 0, 0, 1000, 10);
    }

    private static void weightOfKnown() {
        Book.test(21, "11 of KNOWN ones: what 10 gives, and how many FILLS.");
        OilRound x = Made.kinds();
        asked(x, 1, 0, 3, 11, 10);
        x.fill(1, 0);
        asked(x, 1, 0, 4, 11, 10);
        x.day(10);
        asked(x, 1, 0, 34, 11, 10);
    }

    private static void weightOfSteady() {
        Book.test(21, "12 of STEADY ones: what 11 gives, and a.");
        OilRound x = Made.one(1000, 3, 0, 9, 0);
        for (int i = 0; i < 3; i++) x.fill(0, 0);
        asked(x, 0, 0, 6, 12, 11, 10);
        Made.days(x, 40, 7);
        asked(x, 0, 0, 12 + 3 + 3, 12, 11, 10);
        x.fill(0, 9);
        // c is 4 then, a not above it.
        Book.due("told(0, 0)", x.told(0, 0), 4);
        asked(x, 0, 0, 4 + 4, 12, 11, 10);
    }

    private static void weightOfLeaky() {
        Book.test(21, "13 of LEAKY ones: what 10 gives, and 5000.");
        OilRound x = Made.one(1000, 3, 0, 9, 0);
        x.fill(0, 1);
        asked(x, 0, 0, 5000, 13, 10);
        Made.days(x, 1, 1);
        asked(x, 0, 0, 5012, 13, 10);
    }

    private static void markLent() {
        Book.test(21, "1 MARK: 20 lent to all HOUSES: what the TANK holds.");
        OilRound x = Made.one(777, 2, 1, 10, 3);
        asked(x, 0, 1, 777, 20);
        x.day(5);
        asked(x, 0, 1, 777, 20);
    }

    private static void markOfKnown() {
        Book.test(21, "21 of KNOWN ones: what 20 gives, and WEIGHT.");
        OilRound x = Made.kinds();
        asked(x, 1, 1, 1001 + 3, 21, 20, 11, 10);
        x.day(10);
        asked(x, 1, 1, 1001 + 33, 21, 20, 11, 10);
    }

    private static void markOfLeaky() {
        Book.test(21, "22 of LEAKY ones: what 20 gives, less WEIGHT.");
        OilRound x = Made.kinds();
        asked(x, 3, 1, 1003 - 5000, 22, 20, 13, 10);
        x.day(10);
        asked(x, 3, 1, 1003 - 5030, 22, 20, 13, 10);
    }

    private static void nearestKind() {
        Book.test(21, BODY_OF_THE_KIND);
        // No MARK is told for STEADY ones: that of KNOWN ones begins, not the one that is lent.
        OilRound x = Made.kinds();
        asked(x, 2, 1, 1002 + 3 + 5, 21, 20, 12, 11, 10);
        asked(x, 0, 1, 1000, 20);
        asked(x, 0, 0, 3 + 5 - 8, 10);
    }

    private static void weightAskedAnew() {
        Book.test(21, "WEIGHT within another one is asked of the same HOUSE anew.)");
        OilRound x = Made.kinds();
        int[] bodies = {10, 11, 12, 13};
        for (int house = 1; house < 4; house++) {
            int weight = x.ask(house, 0);
            int mark = x.ask(house, 1);
            Book.due("trace(2) of " + house, x.trace(2), bodies[house]);
            Book.due("ask(" + house + ", 1)", mark, house == 3 ? 1003 - weight : 1000 + house + weight);
        }
        // A known one that leaks is asked as a leaky one, in both.
        x.fill(1, 1000);
        asked(x, 1, 1, 1001 - 5000, 22, 20, 13, 10);
        asked(x, 1, 0, 5000, 13, 10);
    }

    private static void bodiesAsTheyBegin() {
        Book.test(22, "ASKS, by BODIES, each of which leaves its number in THE TRACE as it begins (the first 16):");
        OilRound x = Made.kinds();
        x.ask(2, 1);
        traceIs(x, 21, 20, 12, 11, 10);
        x.ask(2, 0);
        traceIs(x, 12, 11, 10);
        x.ask(3, 1);
        traceIs(x, 22, 20, 13, 10);
    }

    private static void traceOfSixteen() {
        Book.test(22, "(the first 16)");
        // No ask has more than five bodies; what stands there is never beyond 16, whatever was asked ahead.
        OilRound x = Made.kinds();
        for (int i = 0; i < 30; i++) x.ask(2, 1);
        traceIs(x, 21, 20, 12, 11, 10);
        Book.due("trace(15)", x.trace(15), Book.NONE);
        Book.due("trace(16)", x.trace(16), Book.NONE);
    }

    private static void askAnswers() {
        Book.test(21, "An ASK (0, 1) of a HOUSE.");
        OilRound x = Made.kinds();
        int[] weights = {0, 3, 8, 5000};
        int[] marks = {1000, 1004, 1010, -3997};
        for (int house = 0; house < 4; house++) {
            Book.due("ask(" + house + ", 0)", x.ask(house, 0), weights[house]);
            Book.due("ask(" + house + ", 1)", x.ask(house, 1), marks[house]);
        }
    }

    private static void askBad() {
        Book.test(21, "An ASK (0, 1) of a HOUSE. BAD.");
        OilRound x = Made.kinds();
        for (int bad : Book.outside(0, 1)) Book.due("ask(0, " + bad + ")", x.ask(0, bad), Book.BAD);
        for (int bad : Book.outside(0, 3)) Book.due("ask(" + bad + ", 0)", x.ask(bad, 0), Book.BAD);
        Book.due("trace(0)", x.trace(0), Book.NONE);
    }

    private static void traceEmptyAhead() {
        Book.test(21, "THE TRACE is empty ahead of it (where that is refused it stays).");
        OilRound x = Made.kinds();
        x.ask(2, 1);
        x.ask(0, 0);
        traceIs(x, 10);
        x.ask(1, 0);
        traceIs(x, 11, 10);
        x.ask(0, 1);
        traceIs(x, 20);
    }

    private static void traceStays() {
        Book.test(21, "(where that is refused it stays)");
        OilRound x = Made.kinds();
        x.ask(2, 1);
        Book.due("ask(2, 2)", x.ask(2, 2), Book.BAD);
        traceIs(x, 21, 20, 12, 11, 10);
        Book.due("ask(4, 0)", x.ask(4, 0), Book.BAD);
        traceIs(x, 21, 20, 12, 11, 10);
        Book.due("ask(-1, 1)", x.ask(-1, 1), Book.BAD);
        Book.due("ask(0, -1)", x.ask(0, -1), Book.BAD);
        traceIs(x, 21, 20, 12, 11, 10);
        // What is no ask leaves it as it is, too.
        x.kind(0);
        x.as(0, 0);
        x.day(0);
        x.fill(0, 0);
        x.plans();
        traceIs(x, 21, 20, 12, 11, 10);
    }

    private static void traceAnswers() {
        Book.test(22, "Number i of THE TRACE; NONE.");
        OilRound x = Made.kinds();
        x.ask(1, 1);
        traceIs(x, 21, 20, 11, 10);
    }

    private static void traceNone() {
        Book.test(22, "Number i of THE TRACE; NONE.");
        OilRound x = Made.kinds();
        int[] places = {0, 1, 15, 16, 17, 256, 65536, -1, -16, Book.LEAST, Book.MOST};
        for (int i : places) Book.due("trace(" + i + ") ahead of any ask", x.trace(i), Book.NONE);
        x.ask(0, 0);
        for (int i : places) Book.due("trace(" + i + ") behind one", x.trace(i), i == 0 ? 10 : Book.NONE);
    }

    private static void countAnswers() {
        Book.test(23, "How many: 0 HOUSES, 1 days, 2 DUE ones, 3 the stock, 4 litres that came to the DEPOT, 5 litres filled, "
            + "6 what all paid, 7 bytes on the tape.");
        OilRound x = new OilRound();
        x.house(0, 0, 5000);
        x.house(0, 0, 300);
        x.house(0, 0, 200);
        Made.days(x, 1, 2);
        x.stock(90000);
        x.stock(10000);
        x.fill(0, 5000);
        x.price(1000);
        x.fill(0, 5000);
        x.fill(1, 300);
        x.stock(300);
        Made.feed(x, "house 0");
        long[] want = {3, 2, 2, 90000, 100300, 10300, 500000 + 5000000 + 300000, 7};
        for (int what = 0; what <= 7; what++) Book.due("count(" + what + ")", x.count(what), want[what]);
    }

    private static void countOfNothing() {
        Book.test(23, "How many: 0 HOUSES, 1 days, 2 DUE ones,");
        OilRound x = new OilRound();
        for (int what = 0; what <= 7; what++) Book.due("count(" + what + ")", x.count(what), 0);
        x.house(0, 0, 5000);
        x.fill(0, 0);
        x.stock(0);
        long[] want = {1, 0, 0, 0, 0, 0, 0, 0};
        for (int what = 0; what <= 7; what++) Book.due("count(" + what + ") with a house", x.count(what), want[what]);
    }

    private static void countDue() {
        Book.test(23, "2 DUE ones,");
        OilRound x = Made.some(3);
        x.prior(0, 0, 0, 10, 0);
        x.prior(1, 0, 0, 0, 0);
        Book.due("count(2)", x.count(2), 1);
        x.look(0, 0);
        Book.due("count(2) for no days", x.count(2), 0);
        for (int i = 0; i < 100; i++) x.day(0);
        Book.due("count(2), two dry", x.count(2), 2);
        x.fill(2, 1000);
        Book.due("count(2), one filled", x.count(2), 1);
    }

    private static void countBeyondAnInt() {
        Book.test(23, "6 what all paid");
        OilRound x = new OilRound();
        x.house(0, 0, 5000);
        x.house(0, 0, 5000);
        Made.read(x, "house 0 paid 99999 @ 99999; house 1 paid 99999 @ 99999;");
        x.stock(100000);
        for (int i = 0; i < 20; i++) Book.due("fill(" + i % 2 + ", 5000)", x.fill(i % 2, 5000), 499995000);
        Book.due("count(6)", x.count(6), 9999900000L);
        Book.due("count(5)", x.count(5), 100000);
        Book.due("count(3)", x.count(3), 0);
    }

    private static void countBad() {
        Book.test(23, "BAD as a long.");
        OilRound x = Made.some(1);
        for (int bad : Book.outside(0, 7)) Book.due("count(" + bad + ")", x.count(bad), -1000001L);
    }
}
