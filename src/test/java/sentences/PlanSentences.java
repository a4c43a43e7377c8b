/** Promises 14 to 18 with part 4 of the terms: prices, the tape, plans and faults. */
final class PlanSentences {
    private static final String FAULT_ONE = "1 it cannot stand there, or is none";

    private PlanSentences() {
    }

    static void holdAll() {
        tapeOfThreeHundred();
        names();
        namesOfSixAtMost();
        numbers();
        numbersOfFiveAtMost();
        signs();
        blanks();
        blanksAsManyAsWanted();
        noBlanks();
        grammar();
        wayToPay();
        capIfLess();
        paidThenByTheDay();
        latestPlan();
        dayWithoutOne();
        firstTokenWithAFault();
        cannotStandThere();
        isNone();
        sixFigures();
        end();
        houseNotThere();
        priceWithin();
        priceAnswers();
        priceBad();
        feedAnswers();
        feedBad();
        feedFull();
        plansAnswers();
        plansInForce();
        plansNoneWithAFault();
        emptyThen();
        faultAnswers();
        faultBeforeOne();
        quoteAnswers();
        quoteUsesNothingUp();
        quoteBad();
    }

    /** A tape of its own with three houses there: the place of the fault, and its number. */
    private static void fault(String text, int place, int number) {
        OilRound x = Made.some(3);
        Book.due("plans() of '" + text + "'", Made.read(x, text), -1000100 - place);
        Book.due("fault() of '" + text + "'", x.fault(), number);
        Book.due("count(7) behind '" + text + "'", x.count(7), 0);
    }

    /** A tape of its own with three houses there, without a fault. */
    private static void told(String text, int plans) {
        OilRound x = Made.some(3);
        Book.due("plans() of '" + text + "'", Made.read(x, text), plans);
        Book.due("fault() of '" + text + "'", x.fault(), 0);
        Book.due("count(7) behind '" + text + "'", x.count(7), 0);
    }

    private static void tapeOfThreeHundred() {
        Book.test(15, "PLANS, texts: THE TAPE has at most 300 bytes;");
        OilRound x = Made.some(1);
        for (int size = 1; size <= 300; size++) Book.due("byte " + size, x.feed(' ', 1), size);
        Book.due("byte 301", x.feed(' ', 1), Book.FULL);
        Book.due("count(7)", x.count(7), 300);
        Book.due("plans()", x.plans(), 0);
        StringBuilder all = new StringBuilder();
        while (all.length() < 299) all.append(all.length() < 286 ? " " : "house 0 cap 7;".charAt(all.length() - 286) + "");
        OilRound y = Made.some(1);
        Made.feed(y, all.toString());
        Book.due("byte 300", y.feed(';', 1), 300);
        Book.due("plans() of a plan up to the last byte", y.plans(), 1);
        Book.due("quote(0, 1)", y.quote(0, 1), 7);
    }

    private static void names() {
        Book.test(16, "TOKENS: NAMES (letters a to z, 6 at most),");
        String[] none = {"House 0 day;", "HOUSE 0 day;", "`ouse 0 day;", "{ouse 0 day;", "\u00e8ouse 0 day;", "_house 0 day;"};
        for (String each : none) fault(each, 0, 1);
        fault("house 0 Day;", 8, 1);
        fault("house 0 dAy;", 8, 1);
        fault("house 0 da;", 8, 1);
        fault("house 0 days;", 8, 1);
        fault("hous 0 day;", 0, 1);
        fault("xouse 0 day;", 0, 1);
        fault("house 0 xay;", 8, 1);
        fault("house 0 xap 5;", 8, 1);
        fault("house 0 xaid 5@1;", 8, 1);
        fault("house 0 cop 5;", 8, 1);
        // a and z are letters, what stands beside them is none: it ends the name.
        fault("housea 0 day;", 0, 1);
        fault("housez 0 day;", 0, 1);
        fault("house` 0 day;", 5, 1);
        fault("house{ 0 day;", 5, 1);
        fault("house 0 dayz;", 8, 1);
        fault("a", 0, 1);
        fault("z", 0, 1);
        told("house 0 day;", 1);
    }

    private static void namesOfSixAtMost() {
        Book.test(16, "NAMES (letters a to z, 6 at most)");
        fault("houses 0 day;", 0, 1);
        fault("housesx 0 day;", 0, 1);
        fault("househouse 0 day;", 0, 1);
        fault("house 0 daydayday;", 8, 1);
        fault("house 0 day;houseaa", 12, 1);
        fault("house 0 capcapcap 5;", 8, 1);
    }

    private static void numbers() {
        Book.test(16, "NUMBERS (figures, 5 at most)");
        OilRound x = Made.some(3);
        Book.due("plans()", Made.read(x, "house 2 cap 98765; house 00001 paid 10203 @ 00009;"), 2);
        x.price(1000);
        Book.due("quote(2, 1)", x.quote(2, 1), 1000);
        Book.due("quote(1, 5000)", x.quote(1, 5000), 45000);
        fault("house /0 day;", 6, 1);
        fault("house :0 day;", 6, 1);
        fault("house -1 day;", 6, 1);
        fault("house 0 cap 1.5;", 13, 1);
        fault("house 0x0 day;", 7, 1);
    }

    private static void numbersOfFiveAtMost() {
        Book.test(16, "NUMBERS (figures, 5 at most)");
        OilRound x = Made.some(3);
        Book.due("plans() of 99999", Made.read(x, "house 0 paid 99999 @ 99999;"), 1);
        Book.due("quote(0, 5000)", x.quote(0, 5000), 499995000);
        Book.due("plans() of 00002", Made.read(x, "house 00002 cap 00003;"), 1);
        Book.due("quote(2, 2)", x.quote(2, 2), 6);
        fault("house 000002 day;", 6, 1);
        fault("house 0 cap 000003;", 12, 1);
    }

    private static void signs() {
        Book.test(16, "SIGNS ; and @");
        told("house 0 paid 1 @ 2;", 1);
        fault("house 0 day:", 11, 1);
        fault("house 0 day<", 11, 1);
        fault("house 0 paid 1 ? 2;", 15, 1);
        fault("house 0 paid 1 A 2;", 15, 1);
        fault("house 0 day@", 11, 1);
        fault("house 0 paid 1 ; 2;", 15, 1);
        for (int value = 0; value < 256; value++) {
            if (value == 32 || value == 10 || value == 'h') continue;
            OilRound x = Made.some(1);
            x.feed(value, 1);
            Book.due("plans() of byte " + value, x.plans(), -1000100);
            Book.due("fault() of byte " + value, x.fault(), 1);
        }
    }

    private static void blanks() {
        Book.test(16, "(bytes 32 and 10 ahead of, between, behind these, as many as wanted;");
        told(" house 0 day;", 1);
        told("\nhouse 0 day;", 1);
        told("house\n0\nday\n;\n", 1);
        told("house 0 day; ", 1);
        told("house 0 paid 1 @ 2 ;\n house 1 cap 3 ;", 2);
        fault("house\t0 day;", 5, 1);
        fault("house 0\rday;", 7, 1);
        fault("house 0 day;\0", 12, 1);
        fault("house 0\u00a0day;", 7, 1);
        fault("\u000bhouse 0 day;", 0, 1);
    }

    private static void blanksAsManyAsWanted() {
        Book.test(16, "as many as wanted;");
        told("\n \n  house   \n\n 0 \n day \n\n ; \n  ", 1);
        told("", 0);
        told(" ", 0);
        told("\n", 0);
        StringBuilder all = new StringBuilder();
        for (int i = 0; i < 288; i++) all.append(i % 3 == 0 ? '\n' : ' ');
        told(all + "house 0 day;", 1);
        told("house 0 day" + all + ";", 1);
        told("house" + all + "0 day;", 1);
        told("house 0 day;" + all, 1);
        fault("ho use 0 day;", 0, 1);
        fault("house 0 cap 1 2;", 14, 1);
    }

    private static void noBlanks() {
        Book.test(16, "none is needed where one ends without).");
        OilRound x = Made.some(3);
        Book.due("plans()", Made.read(x, "house0paid10@20;house1cap7;house2day;"), 3);
        Book.due("quote(0, 11)", x.quote(0, 11), 300);
        Book.due("quote(1, 10)", x.quote(1, 10), 70);
        Book.due("quote(2, 10)", x.quote(2, 10), 1000);
        fault("house0capx7;", 6, 1);
        fault("houseday;", 0, 1);
        fault("house0daycap;", 6, 1);
        fault("house 0 cap 7house 1 day;", 13, 1);
    }

    private static void grammar() {
        Book.test(16, "text: { 'house' NUMBER ( 'day' | 'cap' NUMBER | 'paid' NUMBER '@' NUMBER ) ';' }:");
        told("", 0);
        told("house 0 day;", 1);
        told("house 0 cap 1;", 1);
        told("house 0 paid 1 @ 2;", 1);
        told("house 0 day; house 0 cap 1; house 0 paid 1 @ 2; house 0 day;", 4);
        // Each token of each kind of plan left out, or another in its stead.
        fault("0 day;", 0, 1);
        fault("house day;", 6, 1);
        fault("house 0;", 7, 1);
        fault("house 0 day house 1 day;", 12, 1);
        fault("house 0 cap;", 11, 1);
        fault("house 0 cap 1 house", 14, 1);
        fault("house 0 cap day;", 12, 1);
        fault("house 0 cap 1 @ 2;", 14, 1);
        fault("house 0 day 1;", 12, 1);
        fault("house 0 paid;", 12, 1);
        fault("house 0 paid @ 2;", 13, 1);
        fault("house 0 paid 1;", 14, 1);
        fault("house 0 paid 1 2;", 15, 1);
        fault("house 0 paid 1 @;", 16, 1);
        fault("house 0 paid 1 @ day;", 17, 1);
        fault("house 0 paid 1 @ 2 3;", 19, 1);
        fault("house 0 paid 1 @ 2", 18, 1);
        fault("house 0 house;", 8, 1);
        fault("day 0 day;", 0, 1);
        fault(";", 0, 1);
        fault("house 0 day;;", 12, 1);
        fault("@", 0, 1);
    }

    private static void wayToPay() {
        Book.test(18, "how a HOUSE pays for a litre: by the day's PRICE;");
        OilRound x = Made.some(1);
        Made.read(x, "house 0 day;");
        int[] prices = {0, 1, 99, 1000};
        for (int price : prices) {
            x.price(price);
            Book.due("quote(0, 5000) at " + price, x.quote(0, 5000), 5000 * price);
            Book.due("quote(0, 0) at " + price, x.quote(0, 0), 0);
            Book.due("fill(0, 10) at " + price, x.fill(0, 10), 10 * price);
        }
    }

    private static void capIfLess() {
        Book.test(18, "by that, or the cap, if this is less;");
        int[][] costs = {{99, 990}, {100, 1000}, {101, 1000}, {0, 0}, {99999, 1000}};
        for (int[] each : costs) {
            OilRound x = Made.some(1);
            Made.read(x, "house 0 cap " + each[0] + ";");
            Book.due("quote(0, 10) with cap " + each[0], x.quote(0, 10), each[1]);
            Book.due("fill(0, 10) with cap " + each[0], x.fill(0, 10), each[1]);
        }
        OilRound y = Made.some(1);
        Made.read(y, "house 0 cap 500;");
        y.price(499);
        Book.due("quote(0, 1) at 499", y.quote(0, 1), 499);
        y.price(501);
        Book.due("quote(0, 1) at 501", y.quote(0, 1), 500);
    }

    private static void paidThenByTheDay() {
        Book.test(18, "so many litres at a price of their own, then by the day.");
        OilRound x = Made.some(2);
        Made.read(x, "house 0 paid 40 @ 120; house 1 paid 0 @ 1;");
        Book.due("quote(0, 39)", x.quote(0, 39), 39 * 120);
        Book.due("quote(0, 40)", x.quote(0, 40), 40 * 120);
        Book.due("quote(0, 41)", x.quote(0, 41), 40 * 120 + 100);
        Book.due("fill(0, 0)", x.fill(0, 0), 0);
        Book.due("fill(0, 39)", x.fill(0, 39), 39 * 120);
        Book.due("quote(0, 1)", x.quote(0, 1), 120);
        Book.due("quote(0, 2)", x.quote(0, 2), 220);
        Book.due("fill(0, 3)", x.fill(0, 3), 320);
        Book.due("quote(0, 1)", x.quote(0, 1), 100);
        Book.due("fill(0, 1)", x.fill(0, 1), 100);
        x.price(7);
        Book.due("fill(0, 10)", x.fill(0, 10), 70);
        Book.due("quote(1, 10)", x.quote(1, 10), 70);
    }

    private static void latestPlan() {
        Book.test(16, "One a HOUSE: the latest;");
        OilRound x = Made.some(2);
        Book.due("plans()", Made.read(x, "house 0 cap 50; house 0 paid 5 @ 3; house 0 cap 80;"), 3);
        Book.due("quote(0, 10)", x.quote(0, 10), 800);
        Made.read(x, "house 0 paid 4 @ 10;");
        Book.due("quote(0, 5)", x.quote(0, 5), 140);
        Made.read(x, "house 1 cap 1;");
        Book.due("quote(0, 5), another one's plan told", x.quote(0, 5), 140);
        Made.read(x, "house 0 day;");
        Book.due("quote(0, 5)", x.quote(0, 5), 500);
        // A plan that is told anew is paid ahead anew.
        Made.read(x, "house 0 paid 4 @ 10;");
        x.fill(0, 3);
        Made.read(x, "house 0 paid 4 @ 10;");
        Book.due("quote(0, 4)", x.quote(0, 4), 40);
        // Litres that an older plan left are none of a newer one.
        Made.read(x, "house 0 cap 30;");
        Book.due("quote(0, 4)", x.quote(0, 4), 120);
        Book.due("fill(0, 4)", x.fill(0, 4), 120);
        Made.read(x, "house 0 paid 2 @ 10;");
        Book.due("quote(0, 4)", x.quote(0, 4), 220);
    }

    private static void dayWithoutOne() {
        Book.test(18, "'day' without one.");
        OilRound x = Made.some(3);
        Made.read(x, "house 1 cap 2;");
        Book.due("quote(0, 10)", x.quote(0, 10), 1000);
        Book.due("quote(2, 10)", x.quote(2, 10), 1000);
        x.price(7);
        Book.due("quote(0, 10) at 7", x.quote(0, 10), 70);
        x.house(0, 0, 100);
        Book.due("quote(3, 10) of one just come", x.quote(3, 10), 70);
    }

    private static void firstTokenWithAFault() {
        Book.test(16, "FAULTS, the first TOKEN that has one (its first byte):");
        fault("house 3 x", 6, 2);
        fault("house 3 day; x", 6, 2);
        fault("x house 3 day;", 0, 1);
        fault("house 0 x; house 3 day;", 8, 1);
        fault("house 0 day; house 9 day; house 8 day;", 19, 2);
        fault("  \n house 0 days;", 12, 1);
        fault("house 0 cap   xyz;", 14, 1);
        fault("house 0 day;  \n  4", 17, 1);
        StringBuilder all = new StringBuilder();
        while (all.length() < 288) all.append("house 1 day;");
        fault(all + "house 1 dayx", 296, 1);
        fault(all + "house 1 day@", 299, 1);
    }

    private static void cannotStandThere() {
        Book.test(16, FAULT_ONE);
        // Each kind of token at each place where it cannot stand.
        String[] heads = {"", "house ", "house 0 ", "house 0 day ", "house 0 cap ", "house 0 cap 1 ", "house 0 paid ",
            "house 0 paid 1 ", "house 0 paid 1 @ ", "house 0 paid 1 @ 2 ", "house 0 day;"};
        String[] tokens = {"house", "day", "cap", "paid", "7", "@", ";"};
        String[] fitting = {"house", "7", "day cap paid", ";", "7", ";", "7", "@", "7", ";", "house"};
        for (int i = 0; i < heads.length; i++) {
            for (String token : tokens) {
                if ((" " + fitting[i] + " ").contains(" " + token + " ")) continue;
                fault(heads[i] + token, heads[i].length(), 1);
            }
        }
    }

    private static void isNone() {
        Book.test(16, FAULT_ONE);
        String[] heads = {"", "house ", "house 0 ", "house 0 day ", "house 0 cap ", "house 0 paid 1 ", "house 0 day; "};
        String[] nones = {"?", "#", "\u00ff", "\t", "-", "A", "housee", "abcdefg", "123456", "xyz"};
        for (String head : heads) {
            for (String none : nones) fault(head + none, head.length(), 1);
        }
    }

    private static void sixFigures() {
        Book.test(16, "(a run of six figures or more, at its first;");
        fault("house 000000 day;", 6, 1);
        fault("house 0000000 day;", 6, 1);
        fault("house 999999 day;", 6, 1);
        fault("house 0 cap 123456;", 12, 1);
        fault("house 0 cap 12345678901234567890;", 12, 1);
        fault("house 0 cap  4294967297;", 13, 1);
        fault("house 0 paid 100000@1;", 13, 1);
        fault("house 0 paid 1@100000;", 15, 1);
        fault("house 0 paid 1@100000", 15, 1);
        fault("123456", 0, 1);
        told("house 0 cap 12345;", 1);
        fault("house 0 cap 12345 6;", 18, 1);
    }

    private static void end() {
        Book.test(16, "the end: how many bytes there are);");
        String[] cuts = {"house", "house 0", "house 0 day", "house 0 cap", "house 0 cap 1", "house 0 paid", "house 0 paid 1",
            "house 0 paid 1 @", "house 0 paid 1 @ 2", "house 0 day; house", "\n\nhouse 2"};
        for (String cut : cuts) {
            fault(cut, cut.length(), 1);
            fault(cut + " ", cut.length() + 1, 1);
            fault(cut + " \n\n", cut.length() + 3, 1);
        }
        StringBuilder all = new StringBuilder("house 0 day");
        while (all.length() < 300) all.append(' ');
        fault(all.toString(), 300, 1);
        OilRound x = Made.some(1);
        Made.feed(x, all.toString());
        x.plans();
        Book.due("a short one behind a long one", Made.read(x, "house 0"), -1000107);
        Book.due("no bytes are no fault", x.plans(), 0);
    }

    private static void houseNotThere() {
        Book.test(17, "2 a HOUSE that is not there.");
        fault("house 3 day;", 6, 2);
        fault("house 3", 6, 2);
        fault("house 00003 day;", 6, 2);
        fault("house 24 day;", 6, 2);
        fault("house 99999 day;", 6, 2);
        fault("house 65536 day;", 6, 2);
        told("house 2 day;", 1);
        told("house 02 day;", 1);
        OilRound x = new OilRound();
        Book.due("plans() without a house", Made.read(x, "house 0 day;"), -1000106);
        Book.due("fault() without a house", x.fault(), 2);
        // It counts who is there when the tape is read.
        Made.feed(x, "house 0 cap 3;");
        x.house(0, 0, 100);
        Book.due("plans() with the house", x.plans(), 1);
        Book.due("quote(0, 10)", x.quote(0, 10), 30);
        OilRound y = Made.some(24);
        Book.due("plans() of house 23", Made.read(y, "house 23 cap 5;"), 1);
        Book.due("quote(23, 10)", y.quote(23, 10), 50);
        Book.due("plans() of house 24", Made.read(y, "house 24 cap 5;"), -1000106);
        // A price is not a house.
        Book.due("plans() of cap 24", Made.read(y, "house 23 cap 24; house 1 paid 24 @ 24;"), 2);
    }

    private static void priceWithin() {
        Book.test(14, "The PRICE is 0 to 1000, at first 100.");
        OilRound x = Made.some(1);
        Book.due("quote(0, 1)", x.quote(0, 1), 100);
        for (int bad : Book.outside(0, 1000)) Book.due("price(" + bad + ")", x.price(bad), Book.BAD);
        Book.due("quote(0, 1)", x.quote(0, 1), 100);
        Book.due("price(0)", x.price(0), 100);
        Book.due("quote(0, 5000)", x.quote(0, 5000), 0);
        Book.due("price(1000)", x.price(1000), 0);
        Book.due("quote(0, 5000)", x.quote(0, 5000), 5000000);
    }

    private static void priceAnswers() {
        Book.test(14, "The PRICE: what it was.");
        OilRound x = new OilRound();
        Book.due("price(7)", x.price(7), 100);
        Book.due("price(8)", x.price(8), 7);
        Book.due("price(8)", x.price(8), 8);
        Book.due("price(1001)", x.price(1001), Book.BAD);
        Book.due("price(9)", x.price(9), 8);
    }

    private static void priceBad() {
        Book.test(14, "The PRICE: what it was. BAD.");
        OilRound x = new OilRound();
        Book.due("price(-1)", x.price(-1), Book.BAD);
        Book.due("price(1001)", x.price(1001), Book.BAD);
        Book.due("price(100)", x.price(100), 100);
    }

    private static void feedAnswers() {
        Book.test(15, "The lowest n bytes of w (1 to 8), the highest of them first, come behind the tape: how many it has.");
        OilRound x = Made.some(1);
        // 'house 0 ', then of 'xxxxxcap' the last three, then ' 12345;' with a sign above it.
        Book.due("feed(.., 8)", x.feed(0x686f757365203020L, 8), 8);
        Book.due("feed(.., 3)", x.feed(0x7878787878636170L, 3), 11);
        Book.due("feed(.., 7)", x.feed(0xff20313233343500L | ';', 7), 18);
        Book.due("plans()", x.plans(), 1);
        x.price(1000);
        Book.due("quote(0, 1)", x.quote(0, 1), 1000);
        // The same by each number of bytes.
        String text = "house 0 paid 2 @ 3; house 0 cap 45678;\n ";
        for (int n = 1; n <= 8; n++) {
            if (text.length() % n != 0) continue;
            OilRound y = Made.some(1);
            for (int at = 0; at < text.length(); at += n) {
                long w = -1;
                for (int i = 0; i < n; i++) w = w << 8 | text.charAt(at + i);
                Book.due("feed(.., " + n + ") at " + at, y.feed(w, n), at + n);
            }
            Book.due("plans() by " + n, y.plans(), 2);
            Book.due("quote(0, 1) by " + n, y.quote(0, 1), 100);
        }
        // A byte above 127 is one byte, and no blank, letter or figure.
        OilRound z = Made.some(1);
        Book.due("feed(-1, 8)", z.feed(-1L, 8), 8);
        Book.due("plans()", z.plans(), -1000100);
        Book.due("feed(LEAST, 1)", z.feed(Long.MIN_VALUE, 1), 1);
        Book.due("plans()", z.plans(), -1000100);
    }

    private static void feedBad() {
        Book.test(15, "BAD: n;");
        OilRound x = new OilRound();
        for (int bad : Book.outside(1, 8)) Book.due("feed(.., " + bad + ")", x.feed(0x2020202020202020L, bad), Book.BAD);
        Book.due("feed(.., 0)", x.feed(0, 0), Book.BAD);
        Book.due("count(7)", x.count(7), 0);
        Book.due("feed(.., 1)", x.feed(0x2020202020202020L, 1), 1);
        Book.due("feed(.., 8)", x.feed(0x2020202020202020L, 8), 9);
    }

    private static void feedFull() {
        Book.test(15, "FULL: none comes.");
        for (int n = 1; n <= 8; n++) {
            OilRound x = Made.some(1);
            for (int i = 0; i < 37; i++) x.feed(0x2020202020202020L, 8);
            // 296 are there: five and more are too many, and not one of them comes.
            int want = n <= 4 ? 296 + n : Book.FULL;
            Book.due("feed(.., " + n + ") at 296", x.feed(0x2020202020202020L, n), want);
            Book.due("count(7)", x.count(7), n <= 4 ? want : 296);
        }
        OilRound y = Made.some(1);
        for (int i = 0; i < 50; i++) y.feed(0x202020202020L, 6);
        Book.due("count(7)", y.count(7), 300);
        for (int n = 1; n <= 8; n++) Book.due("feed(.., " + n + ") at 300", y.feed('x', n), Book.FULL);
        Book.due("plans()", y.plans(), 0);
        Book.due("feed(.., 8) of an empty one", y.feed(0, 8), 8);
    }

    private static void plansAnswers() {
        Book.test(16, "The tape, empty then, is read: how many plans it told; they are in force.");
        OilRound x = Made.some(3);
        Book.due("plans() of nothing", x.plans(), 0);
        StringBuilder all = new StringBuilder();
        for (int i = 0; i < 25; i++) all.append("house 2 day;");
        Book.due("25 plans of 12 bytes", Made.read(x, all.toString()), 25);
        all.setLength(0);
        for (int i = 0; i < 30; i++) all.append("house2day;");
        Book.due("30 plans of 10 bytes", Made.read(x, all.toString()), 30);
        Book.due("plans() of nothing", x.plans(), 0);
    }

    private static void plansInForce() {
        Book.test(16, "they are in force.");
        OilRound x = Made.some(3);
        Made.feed(x, "house 0 cap 60; house 1 paid 5 @ 10;");
        Book.due("quote(0, 10) ahead of plans()", x.quote(0, 10), 1000);
        x.plans();
        Book.due("quote(0, 10)", x.quote(0, 10), 600);
        Book.due("quote(1, 10)", x.quote(1, 10), 550);
        Book.due("quote(2, 10)", x.quote(2, 10), 1000);
        Book.due("plans() of nothing", x.plans(), 0);
        Book.due("quote(0, 10) stays", x.quote(0, 10), 600);
        Book.due("fill(1, 10)", x.fill(1, 10), 550);
    }

    private static void plansNoneWithAFault() {
        Book.test(16, "-1000100 less the place of a FAULT: none is.");
        OilRound x = Made.some(3);
        Made.read(x, "house 0 cap 50; house 1 paid 100 @ 60;");
        x.fill(1, 30);
        String[] faulty = {
            "house 0 day; house 1 day; house 2 cap 5; house 3 day;",
            "house 1 paid 100 @ 60; house 2 cap 5; x",
            "house 0 day; house 1 day; house 2 cap 5"
        };
        int[] places = {47, 38, 39};
        for (int i = 0; i < faulty.length; i++) {
            Book.due("plans() of '" + faulty[i] + "'", Made.read(x, faulty[i]), -1000100 - places[i]);
            Book.due("quote(0, 10)", x.quote(0, 10), 500);
            Book.due("quote(1, 100)", x.quote(1, 100), 70 * 60 + 30 * 100);
            Book.due("quote(2, 10)", x.quote(2, 10), 1000);
        }
        Book.due("plans() of 'x'", Made.read(x, "x"), -1000100);
    }

    private static void emptyThen() {
        Book.test(16, "The tape, empty then, is read:");
        OilRound x = Made.some(1);
        String[] texts = {"house 0 day;", "x", " ", "house 9 day;", "house 0"};
        for (String text : texts) {
            Made.feed(x, text);
            Book.due("count(7) of '" + text + "'", x.count(7), text.length());
            x.plans();
            Book.due("count(7) behind '" + text + "'", x.count(7), 0);
            Book.due("plans() again", x.plans(), 0);
        }
        for (int i = 0; i < 60; i++) x.feed(0x3b3b3b3b3bL, 5);
        Book.due("count(7)", x.count(7), 300);
        x.plans();
        Book.due("feed(' ', 1)", x.feed(' ', 1), 1);
        Book.due("plans()", x.plans(), 0);
    }

    private static void faultAnswers() {
        Book.test(17, "The number of the latest FAULT; 0 before one.");
        OilRound x = Made.some(1);
        Made.read(x, "house 7 day;");
        Book.due("fault() of a house that is not there", x.fault(), 2);
        Made.read(x, "house 0 day;");
        Book.due("fault() stays", x.fault(), 2);
        Made.read(x, "?");
        Book.due("fault() of a sign", x.fault(), 1);
        x.plans();
        Book.due("fault() stays", x.fault(), 1);
        Made.read(x, "house 1");
        Book.due("fault() of a house that is not there", x.fault(), 2);
    }

    private static void faultBeforeOne() {
        Book.test(17, "0 before one.");
        OilRound x = new OilRound();
        Book.due("fault()", x.fault(), 0);
        x.plans();
        Book.due("fault()", x.fault(), 0);
        x.house(0, 0, 100);
        Made.read(x, "house 0 day;");
        Book.due("fault()", x.fault(), 0);
        x.feed('?', 1);
        Book.due("fault() ahead of plans()", x.fault(), 0);
        x.feed('?', 9);
        x.quote(9, 9);
        Book.due("fault() behind refusals", x.fault(), 0);
    }

    private static void quoteAnswers() {
        Book.test(18, "What q litres (0 to 5000) would cost a HOUSE now");
        OilRound x = new OilRound();
        x.house(0, 0, 100);
        Book.due("quote(0, 0)", x.quote(0, 0), 0);
        Book.due("quote(0, 5000): more than it holds, more than there is", x.quote(0, 5000), 500000);
        x.price(3);
        Book.due("quote(0, 1) now", x.quote(0, 1), 3);
        Made.read(x, "house 0 paid 4999 @ 100;");
        Book.due("quote(0, 4999)", x.quote(0, 4999), 499900);
        Book.due("quote(0, 5000)", x.quote(0, 5000), 499903);
    }

    private static void quoteUsesNothingUp() {
        Book.test(18, "(what is paid ahead is not used up).");
        OilRound x = Made.some(1);
        Made.read(x, "house 0 paid 10 @ 1;");
        for (int i = 0; i < 3; i++) Book.due("quote(0, 10)", x.quote(0, 10), 10);
        Book.due("quote(0, 5000)", x.quote(0, 5000), 10 + 499000);
        Book.due("fill(0, 10)", x.fill(0, 10), 10);
        Book.due("quote(0, 10) behind it", x.quote(0, 10), 1000);
        Book.due("count(6)", x.count(6), 10);
        Book.due("count(5)", x.count(5), 10);
    }

    private static void quoteBad() {
        Book.test(18, "(what is paid ahead is not used up). BAD.");
        OilRound x = Made.some(2);
        for (int bad : Book.outside(0, 5000)) Book.due("quote(0, " + bad + ")", x.quote(0, bad), Book.BAD);
        for (int bad : Book.outside(0, 1)) Book.due("quote(" + bad + ", 0)", x.quote(bad, 0), Book.BAD);
    }
}
