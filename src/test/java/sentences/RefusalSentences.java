/** What stands above all promises: numbers from 0 on, refusals in their order, which change nothing; 512 calls. */
final class RefusalSentences {
    private static final String NOTHING_CHANGED = "What is refused changes nothing.";
    private static final String FIRST_THAT_FITS = "Refusals are answers, the first of these that fits: "
        + "BAD (a number is not as told; there is no such thing), STATE (as told), FULL, then KIND (a HOUSE that is not that).";

    private interface Call {
        long on(OilRound x);
    }

    private RefusalSentences() {
    }

    static void holdAll() {
        constants();
        numbersFromNull();
        badAheadOfState();
        badAheadOfFull();
        badAheadOfKind();
        refusedHouses();
        refusedHouseBeyondTheLast();
        refusedPriors();
        refusedDaysAndLooks();
        refusedQuestionsOfHouses();
        refusedRounds();
        refusedFills();
        refusedPlans();
        refusedFeeds();
        refusedFeedAtTheEnd();
        refusedAsks();
        answersChangeNothing();
        callsUpToTheLast();
        objectsApart();
    }

    private static void constants() {
        Book.test(0, "public static final int NONE = -1000000, BAD = -1000001, STATE = -1000002, FULL = -1000003, KIND = -1000004;");
        Book.due("NONE", OilRound.NONE, -1000000);
        Book.due("BAD", OilRound.BAD, -1000001);
        Book.due("STATE", OilRound.STATE, -1000002);
        Book.due("FULL", OilRound.FULL, -1000003);
        Book.due("KIND", OilRound.KIND, -1000004);
    }

    private static void numbersFromNull() {
        Book.test(2, "Numbers go from 0 on.");
        OilRound x = new OilRound();
        Book.due("house(1, 1, 100)", x.house(1, 1, 100), 0);
        Book.due("house(1, 1, 100)", x.house(1, 1, 100), 1);
        Book.due("told(0, 4)", x.told(0, 4), 100);
        Book.due("told(2, 4)", x.told(2, 4), Book.BAD);
        Book.due("stop(2, 0)", x.stop(2, 0), 1);
        x.ask(0, 0);
        Book.due("trace(0)", x.trace(0), 10);
        Book.due("trace(1)", x.trace(1), Book.NONE);
    }

    private static void badAheadOfState() {
        Book.test(3, FIRST_THAT_FITS);
        OilRound x = Made.one(200, 0, 0, 9, 9);
        x.fill(0, 0);
        Book.due("prior(0, 3, 0, 2, 0)", x.prior(0, 3, 0, 2, 0), Book.BAD);
        Book.due("prior(0, 51, 0, 51, 0)", x.prior(0, 51, 0, 51, 0), Book.BAD);
        Book.due("prior(0, 0, 0, 0, 0)", x.prior(0, 0, 0, 0, 0), Book.STATE);
        Book.test(13, FIRST_THAT_FITS);
        OilRound y = new OilRound();
        y.house(0, 0, 200);
        Book.due("fill(0, 201)", y.fill(0, 201), Book.BAD);
        Book.due("fill(1, 1)", y.fill(1, 1), Book.BAD);
        Book.due("fill(0, 200)", y.fill(0, 200), Book.STATE);
    }

    private static void badAheadOfFull() {
        Book.test(2, FIRST_THAT_FITS);
        OilRound x = Made.some(24);
        Book.due("house(51, 0, 100)", x.house(51, 0, 100), Book.BAD);
        Book.due("house(0, -1, 100)", x.house(0, -1, 100), Book.BAD);
        Book.due("house(0, 0, 99)", x.house(0, 0, 99), Book.BAD);
        Book.due("house(0, 0, 100)", x.house(0, 0, 100), Book.FULL);
        Book.test(15, FIRST_THAT_FITS);
        OilRound y = new OilRound();
        for (int i = 0; i < 300; i++) y.feed(' ', 1);
        Book.due("feed(0, 0)", y.feed(0, 0), Book.BAD);
        Book.due("feed(0, 9)", y.feed(0, 9), Book.BAD);
        Book.due("feed(0, 1)", y.feed(0, 1), Book.FULL);
    }

    private static void badAheadOfKind() {
        Book.test(20, FIRST_THAT_FITS);
        OilRound x = Made.some(1);
        Book.due("as(1, 3)", x.as(1, 3), Book.BAD);
        Book.due("as(0, 4)", x.as(0, 4), Book.BAD);
        Book.due("as(0, 3)", x.as(0, 3), Book.KIND);
    }

    /** The call is refused, and all is as it was, the plan that waits on the tape for its end too. */
    private static void refused(int promise, String name, Call call, long want) {
        Book.test(promise, NOTHING_CHANGED);
        keeps(name, call, want);
    }

    private static void keeps(String name, Call call, long want) {
        OilRound x = Made.amidst();
        long[] before = Made.seen(x);
        Book.due(name, call.on(x), want);
        Book.same(name, before, Made.seen(x));
        x.feed(';', 1);
        Book.due(name + ", then plans()", x.plans(), 1);
        Book.due(name + ", then quote(2, 2)", x.quote(2, 2), 100);
    }

    private static void refusedHouses() {
        refused(2, "house(51, 0, 100)", x -> x.house(51, 0, 100), Book.BAD);
        refused(2, "house(0, 51, 100)", x -> x.house(0, 51, 100), Book.BAD);
        refused(2, "house(0, 0, 99)", x -> x.house(0, 0, 99), Book.BAD);
        refused(2, "house(0, 0, 5001)", x -> x.house(0, 0, 5001), Book.BAD);
    }

    private static void refusedHouseBeyondTheLast() {
        Book.test(2, NOTHING_CHANGED);
        OilRound x = Made.some(24);
        Book.due("house(1, 1, 100)", x.house(1, 1, 100), Book.FULL);
        Book.due("count(0)", x.count(0), 24);
        Book.due("told(24, 4)", x.told(24, 4), Book.BAD);
        for (int house = 0; house < 24; house++) {
            Book.due("told(" + house + ", 4)", x.told(house, 4), 1000);
            Book.due("round(1 << " + house + ", 0)", x.round(1 << house, 0), 0);
        }
    }

    private static void refusedPriors() {
        refused(3, "prior(2, 4, 0, 3, 0)", x -> x.prior(2, 4, 0, 3, 0), Book.BAD);
        refused(3, "prior(2, 0, 4, 0, 3)", x -> x.prior(2, 0, 4, 0, 3), Book.BAD);
        refused(3, "prior(2, 1, 1, 51, 1)", x -> x.prior(2, 1, 1, 51, 1), Book.BAD);
        refused(3, "prior(2, 1, 1, 1, 51)", x -> x.prior(2, 1, 1, 1, 51), Book.BAD);
        refused(3, "prior(3, 0, 0, 1, 1)", x -> x.prior(3, 0, 0, 1, 1), Book.BAD);
        refused(3, "prior(0, 0, 0, 1, 1)", x -> x.prior(0, 0, 0, 1, 1), Book.STATE);
        refused(3, "prior(1, 0, 0, 1, 1)", x -> x.prior(1, 0, 0, 1, 1), Book.STATE);
    }

    private static void refusedDaysAndLooks() {
        refused(4, "day(41)", x -> x.day(41), Book.BAD);
        refused(4, "day(-1)", x -> x.day(-1), Book.BAD);
        refused(5, "look(11, 40)", x -> x.look(11, 40), Book.BAD);
        refused(5, "look(-1, 40)", x -> x.look(-1, 40), Book.BAD);
        refused(5, "look(10, 41)", x -> x.look(10, 41), Book.BAD);
        refused(5, "look(0, -1)", x -> x.look(0, -1), Book.BAD);
    }

    private static void refusedQuestionsOfHouses() {
        refused(6, "told(0, 11)", x -> x.told(0, 11), Book.BAD);
        refused(6, "told(3, 0)", x -> x.told(3, 0), Book.BAD);
        refused(7, "lasts(0, 41)", x -> x.lasts(0, 41), Book.BAD);
        refused(7, "lasts(3, 0)", x -> x.lasts(3, 0), Book.BAD);
        refused(18, "quote(0, 5001)", x -> x.quote(0, 5001), Book.BAD);
        refused(18, "quote(3, 0)", x -> x.quote(3, 0), Book.BAD);
        refused(19, "kind(3)", x -> x.kind(3), Book.BAD);
        refused(20, "as(3, 0)", x -> x.as(3, 0), Book.BAD);
        refused(20, "as(0, 4)", x -> x.as(0, 4), Book.BAD);
        refused(20, "as(0, 3)", x -> x.as(0, 3), Book.KIND);
        refused(23, "count(8)", x -> x.count(8), Book.BAD);
    }

    private static void refusedRounds() {
        refused(8, "stock(-1)", x -> x.stock(-1), Book.BAD);
        refused(8, "stock(98026)", x -> x.stock(98026), Book.BAD);
        refused(9, "lorry(99)", x -> x.lorry(99), Book.BAD);
        refused(9, "lorry(9001)", x -> x.lorry(9001), Book.BAD);
        refused(11, "round(0, 0)", x -> x.round(0, 0), Book.BAD);
        refused(11, "round(15, 0)", x -> x.round(15, 0), Book.BAD);
        refused(11, "round(7, 3)", x -> x.round(7, 3), Book.BAD);
        refused(12, "stop(15, 0)", x -> x.stop(15, 0), Book.BAD);
        refused(12, "stop(1, 1)", x -> x.stop(1, 1), Book.NONE);
    }

    private static void refusedFills() {
        refused(13, "fill(0, -1)", x -> x.fill(0, -1), Book.BAD);
        refused(13, "fill(1, 501)", x -> x.fill(1, 501), Book.BAD);
        refused(13, "fill(3, 0)", x -> x.fill(3, 0), Book.BAD);
        Book.test(13, NOTHING_CHANGED);
        OilRound x = Made.amidst();
        x.fill(1, 500);
        x.fill(0, 1000);
        x.fill(1, 450);
        long[] before = Made.seen(x);
        Book.due("the stock", x.count(3), 25);
        Book.due("fill(0, 26)", x.fill(0, 26), Book.STATE);
        Book.same("fill(0, 26)", before, Made.seen(x));
    }

    private static void refusedPlans() {
        refused(14, "price(-1)", x -> x.price(-1), Book.BAD);
        refused(14, "price(1001)", x -> x.price(1001), Book.BAD);
    }

    private static void refusedFeeds() {
        refused(15, "feed('x', 0)", x -> x.feed('x', 0), Book.BAD);
        refused(15, "feed('x', 9)", x -> x.feed('x', 9), Book.BAD);
        refused(15, "feed('x', -1)", x -> x.feed('x', -1), Book.BAD);
    }

    private static void refusedFeedAtTheEnd() {
        Book.test(15, NOTHING_CHANGED);
        OilRound x = Made.some(1);
        Made.feed(x, "house 0 cap 7;");
        for (int i = 14; i < 298; i++) x.feed('\n', 1);
        Book.due("feed(.., 3)", x.feed(0x787878L, 3), Book.FULL);
        Book.due("count(7)", x.count(7), 298);
        Book.due("feed(.., 2)", x.feed(0x2020L, 2), 300);
        Book.due("plans()", x.plans(), 1);
        Book.due("quote(0, 10)", x.quote(0, 10), 70);
    }

    private static void refusedAsks() {
        refused(21, "ask(0, 2)", x -> x.ask(0, 2), Book.BAD);
        refused(21, "ask(0, -1)", x -> x.ask(0, -1), Book.BAD);
        refused(21, "ask(3, 0)", x -> x.ask(3, 0), Book.BAD);
        refused(22, "trace(2)", x -> x.trace(2), Book.NONE);
    }

    private static void answersChangeNothing() {
        Book.test(0, "Nothing is promised beyond the answers and state changes described above");
        keeps("told(1, 6)", x -> x.told(1, 6), 0);
        keeps("lasts(0, 40)", x -> x.lasts(0, 40), 10);
        keeps("calls()", x -> x.calls(), 4);
        keeps("round(3, 0)", x -> x.round(3, 0), 80);
        keeps("stop(3, 1)", x -> x.stop(3, 1), 1);
        keeps("quote(0, 300)", x -> x.quote(0, 300), 275 * 40 + 25 * 130);
        keeps("kind(0)", x -> x.kind(0), 0);
        keeps("as(0, 0)", x -> x.as(0, 0), 1000);
        keeps("trace(0)", x -> x.trace(0), 20);
        keeps("stock(0)", x -> x.stock(0), 1975);
        keeps("look(4, 15)", x -> x.look(4, 15), 1);
        keeps("lorry(700)", x -> x.lorry(700), 700);
        keeps("price(130)", x -> x.price(130), 130);
        keeps("fault()", x -> x.fault(), 2);
        keeps("count(5)", x -> x.count(5), 25);
    }

    private static void callsUpToTheLast() {
        Book.test(0, "An object is used for at most 512 calls after it has been made");
        OilRound x = new OilRound();
        x.house(0, 0, 5000);
        x.prior(0, 1, 0, 2, 0);
        for (int i = 2; i < 509; i++) x.day(0);
        Book.due("call 510, told(0, 4)", x.told(0, 4), 5000 - 507);
        Book.due("call 511, told(0, 5)", x.told(0, 5), 5000 - 2 * 507);
        Book.due("call 512, count(1)", x.count(1), 507);
        OilRound y = Made.one(100, 0, 0, 1, 0);
        for (int i = 3; i < 510; i++) y.fill(0, 0);
        Book.due("call 511, told(0, 7)", y.told(0, 7), 507);
        Book.due("call 512, ask(0, 0)", y.ask(0, 0), 507);
    }

    private static void objectsApart() {
        Book.test(1, "No HOUSES; day 0.");
        OilRound x = Made.amidst();
        long[] before = Made.seen(x);
        OilRound y = new OilRound();
        for (int what = 0; what <= 7; what++) Book.due("count(" + what + ") of another", y.count(what), 0);
        Book.due("fault() of another", y.fault(), 0);
        Book.due("trace(0) of another", y.trace(0), Book.NONE);
        Book.due("lorry(200) of another", y.lorry(200), 3000);
        Book.due("price(3) of another", y.price(3), 100);
        y.house(50, 50, 100);
        y.day(5);
        y.stock(70);
        Made.read(y, "house 0 cap 1; x");
        y.ask(0, 0);
        Book.same("what is done to another", before, Made.seen(x));
    }
}
