/** Objects that tests begin with. */
final class Made {
    private Made() {
    }

    /** One house at the depot with a habit of its own, and a full depot. */
    static OilRound one(int holds, int a, int b, int c, int d) {
        OilRound x = new OilRound();
        x.stock(100000);
        x.house(25, 25, holds);
        x.prior(0, a, b, c, d);
        return x;
    }

    /** So many houses at the depot, all with tanks of 1000, and a full depot. */
    static OilRound some(int houses) {
        OilRound x = new OilRound();
        x.stock(100000);
        for (int i = 0; i < houses; i++) x.house(25, 25, 1000);
        return x;
    }

    /** Days with these colds. */
    static void days(OilRound x, int... colds) {
        for (int cold : colds) x.day(cold);
    }

    static void feed(OilRound x, String text) {
        for (int i = 0; i < text.length(); i++) x.feed(text.charAt(i), 1);
    }

    static int read(OilRound x, String text) {
        feed(x, text);
        return x.plans();
    }

    /** A house of each kind as it is told: 0 HOUSE, 1 KNOWN, 2 STEADY, 3 LEAKY; they hold 1000 to 1003. */
    static OilRound kinds() {
        OilRound x = new OilRound();
        x.stock(100000);
        for (int i = 0; i < 4; i++) {
            x.house(25, 25, 1000 + i);
            x.prior(i, 2, 0, 10, i == 2 ? 0 : 3);
        }
        for (int i = 0; i < 3; i++) {
            x.day(0);
            if (i < 2) x.fill(0, 5);
            x.fill(1, 5);
            x.fill(2, 5);
            x.fill(3, i == 2 ? 11 : 5);
        }
        return x;
    }

    /**
     * Three houses in the midst of things: one filled and paid ahead, one whose days went, one just come;
     * a plan without its end on the tape, a fault told, an ask traced, nothing as it is at first.
     */
    static OilRound amidst() {
        OilRound x = new OilRound();
        x.stock(2000);
        x.house(10, 20, 1000);
        x.house(40, 30, 500);
        x.prior(0, 1, 0, 20, 2);
        x.prior(1, 2, 1, 30, 3);
        x.look(4, 15);
        x.lorry(700);
        x.price(130);
        read(x, "house 0 paid 300 @ 40; house 1 cap 90;");
        read(x, "house 5 day;");
        days(x, 3, 0);
        x.fill(0, 25);
        days(x, 7);
        x.house(25, 30, 200);
        x.ask(0, 1);
        feed(x, "house 2 cap 50 ");
        return x;
    }

    /** All of such an object that calls can tell and that stays as it is. */
    static long[] seen(OilRound x) {
        long[] all = new long[100];
        int size = 0;
        for (int what = 0; what <= 7; what++) all[size++] = x.count(what);
        all[size++] = x.fault();
        all[size++] = x.calls();
        all[size] = x.lorry(100);
        x.lorry((int) all[size++]);
        all[size] = x.price(0);
        x.price((int) all[size++]);
        for (int i = 0; i < 4; i++) all[size++] = x.trace(i);
        for (int what = 0; what <= 2; what++) all[size++] = x.round(7, what);
        for (int i = 0; i < 3; i++) all[size++] = x.stop(7, i);
        for (int house = 0; house < 4; house++) {
            for (int what = 0; what <= 10; what++) all[size++] = x.told(house, what);
            all[size++] = x.lasts(house, 0);
            all[size++] = x.quote(house, 1);
            all[size++] = x.quote(house, 5000);
            all[size++] = x.kind(house);
            all[size++] = x.as(house, 1);
        }
        return all;
    }
}
