import java.util.ArrayList;
import java.util.Arrays;
import java.util.List;
import java.util.regex.Matcher;
import java.util.regex.Pattern;

/** Long mixed runs of calls against a second writing of the document, made another way. */
public final class ModelTests {
    private static final int NONE = -1000000, BAD = -1000001, STATE = -1000002, FULL = -1000003, KIND = -1000004;
    private static final int RUNS = 400;
    private static final int CALLS = 512;

    /** The document anew: days kept as a list, each span and each order found by counting. */
    private static final class Model {
        private static final class Tank {
            int x, y, holds, came;
            long a = 0, b = 0, c = 50, d = 50;
            final List<Integer> colds = new ArrayList<>();
            final List<Integer> notes = new ArrayList<>();
            int up, down;
            String way = "day";
            int litres, own;
        }

        final List<Tank> tanks = new ArrayList<>();
        final List<Integer> trace = new ArrayList<>();
        String tape = "";
        int days = 0, lookahead = 3, lookCold = 20, load = 3000, price = 100, stock = 0, fault = 0;
        long come = 0, filled = 0, paid = 0;

        private boolean there(int house) {
            return house >= 0 && house < tanks.size();
        }

        private static boolean in(long v, long least, long most) {
            return least <= v && v <= most;
        }

        int house(int x, int y, int holds) {
            if (!in(x, 0, 50) || !in(y, 0, 50) || !in(holds, 100, 5000)) return BAD;
            if (tanks.size() == 24) return FULL;
            Tank t = new Tank();
            t.x = x;
            t.y = y;
            t.holds = t.up = t.down = holds;
            t.came = days;
            tanks.add(t);
            return tanks.size() - 1;
        }

        int prior(int house, int a, int b, int c, int d) {
            for (int v : new int[] {a, b, c, d}) if (!in(v, 0, 50)) return BAD;
            if (!there(house) || a > c || b > d) return BAD;
            Tank t = tanks.get(house);
            if (!t.notes.isEmpty() || t.came != days) return STATE;
            t.a = a;
            t.b = b;
            t.c = c;
            t.d = d;
            return 1;
        }

        int day(int cold) {
            if (!in(cold, 0, 40)) return BAD;
            if (days == 20000) return STATE;
            days++;
            int dry = 0;
            for (Tank t : tanks) {
                t.colds.add(cold);
                for (long i = 0; i < t.a + t.b * cold && t.up > 0; i++) t.up--;
                for (long i = 0; i < t.c + t.d * cold && t.down > 0; i++) t.down--;
                if (t.down == 0) dry++;
            }
            return dry;
        }

        int look(int ahead, int cold) {
            if (!in(ahead, 0, 10) || !in(cold, 0, 40)) return BAD;
            lookahead = ahead;
            lookCold = cold;
            return (int) count(2);
        }

        private boolean due(Tank t) {
            return t.down - lookahead * (t.c + t.d * lookCold) <= 0;
        }

        private static int sum(List<Integer> all) {
            int sum = 0;
            for (int each : all) sum += each;
            return sum;
        }

        int told(int house, int what) {
            if (!there(house) || !in(what, 0, 10)) return BAD;
            Tank t = tanks.get(house);
            int latest = t.notes.isEmpty() ? 0 : t.notes.get(t.notes.size() - 1);
            long[] all = {t.a, t.b, t.c, t.d, t.up, t.down, due(t) ? 1 : 0, t.notes.size(), latest, t.colds.size(), sum(t.colds)};
            return (int) all[what];
        }

        int lasts(int house, int cold) {
            if (!there(house) || !in(cold, 0, 40)) return BAD;
            Tank t = tanks.get(house);
            int go = 0;
            while (go < 500 && t.down - (go + 1) * (t.c + t.d * cold) > 0) go++;
            return go;
        }

        int stock(int q) {
            if (q < 0 || (long) stock + q > 100000) return BAD;
            stock += q;
            come += q;
            return stock;
        }

        int lorry(int l) {
            if (!in(l, 100, 9000)) return BAD;
            int was = load;
            load = l;
            return was;
        }

        int calls() {
            List<long[]> due = new ArrayList<>();
            for (int i = 0; i < tanks.size(); i++) {
                Tank t = tanks.get(i);
                long use = t.c + t.d * lookCold;
                if (due(t)) due.add(new long[] {use == 0 ? 1000 : t.down / use, i});
            }
            due.sort((p, q) -> p[0] != q[0] ? Long.compare(p[0], q[0]) : Long.compare(p[1], q[1]));
            int set = 0;
            int need = 0;
            int taken = 0;
            for (long[] each : due) {
                Tank t = tanks.get((int) each[1]);
                if (taken == 8 || need + t.holds - t.down > load) continue;
                taken++;
                need += t.holds - t.down;
                set += 1 << each[1];
            }
            return set;
        }

        private List<Integer> members(int set) {
            List<Integer> all = new ArrayList<>();
            for (int i = 0; i < 32; i++) if ((set >>> i & 1) == 1) all.add(i);
            for (int each : all) if (!there(each)) return null;
            return all.isEmpty() || all.size() > 8 ? null : all;
        }

        private int least;
        private List<Integer> best;

        private void search(List<Integer> left, List<Integer> order, int x, int y, int way) {
            if (way >= least) return;
            if (left.isEmpty()) {
                int whole = way + Math.abs(x - 25) + Math.abs(y - 25);
                if (whole < least) {
                    least = whole;
                    best = new ArrayList<>(order);
                }
                return;
            }
            for (int i = 0; i < left.size(); i++) {
                int each = left.get(i);
                Tank t = tanks.get(each);
                List<Integer> rest = new ArrayList<>(left);
                rest.remove(i);
                order.add(each);
                search(rest, order, t.x, t.y, way + Math.abs(x - t.x) + Math.abs(y - t.y));
                order.remove(order.size() - 1);
            }
        }

        private void plan(List<Integer> members) {
            least = Integer.MAX_VALUE;
            best = null;
            search(members, new ArrayList<>(), 25, 25, 0);
        }

        int round(int set, int what) {
            List<Integer> members = members(set);
            if (members == null || !in(what, 0, 2)) return BAD;
            int need = 0;
            for (int each : members) need += tanks.get(each).holds - tanks.get(each).down;
            if (what == 2) return need;
            if (what == 1) return need <= load && need <= stock ? 1 : 0;
            plan(members);
            return least;
        }

        int stop(int set, int i) {
            List<Integer> members = members(set);
            if (members == null) return BAD;
            plan(members);
            return i >= 0 && i < best.size() ? best.get(i) : NONE;
        }

        private long cost(Tank t, int q) {
            long sum = 0;
            for (int i = 0; i < q; i++) {
                if (t.way.equals("cap")) sum += t.own < price ? t.own : price;
                else sum += t.way.equals("paid") && i < t.litres ? t.own : price;
            }
            return sum;
        }

        private static long up(long v, long by) {
            long cut = v / by;
            return cut * by < v ? cut + 1 : cut;
        }

        int fill(int house, int q) {
            if (!there(house) || !in(q, 0, tanks.get(house).holds)) return BAD;
            if (q > stock) return STATE;
            Tank t = tanks.get(house);
            long cost = cost(t, q);
            t.litres = t.litres > q ? t.litres - q : 0;
            long n = t.colds.size();
            long s = sum(t.colds);
            int note = q > n * t.c + s * t.d ? 1 : q < n * t.a + s * t.b && q < t.holds ? 2 : 0;
            if (note == 0 && q < t.holds && n > 0) {
                t.c = Math.max(Math.min(t.c, (q - s * t.b) / n), t.a);
                if (s > 0) t.d = Math.max(Math.min(t.d, (q - n * t.a) / s), t.b);
                t.a = Math.min(Math.max(t.a, up(q - s * t.d, n)), t.c);
                if (s > 0) t.b = Math.min(Math.max(t.b, up(q - n * t.c, s)), t.d);
            }
            t.notes.add(note);
            t.colds.clear();
            t.up = t.down = t.holds;
            stock -= q;
            filled += q;
            paid += cost;
            return (int) cost;
        }

        int price(int v) {
            if (!in(v, 0, 1000)) return BAD;
            int was = price;
            price = v;
            return was;
        }

        int feed(long w, int n) {
            if (!in(n, 1, 8)) return BAD;
            if (tape.length() + n > 300) return FULL;
            String more = "";
            for (int i = 0; i < n; i++) {
                more = (char) (w & 255) + more;
                w >>>= 8;
            }
            tape += more;
            return tape.length();
        }

        private static final Pattern TOKEN = Pattern.compile("[ \n]*([a-z]+|[0-9]+|(?s:.))");

        int plans() {
            String text = tape;
            tape = "";
            List<String> tokens = new ArrayList<>();
            List<Integer> places = new ArrayList<>();
            Matcher m = TOKEN.matcher(text.replaceAll("[ \n]+$", ""));
            while (m.find()) {
                tokens.add(m.group(1));
                places.add(m.start(1));
            }
            int told = 0;
            int at = 0;
            List<Object[]> plans = new ArrayList<>();
            while (at < tokens.size()) {
                String[] form = {"house", "[0-9]{1,5}", "day|cap|paid", ";"};
                List<String> got = new ArrayList<>();
                for (int i = 0; i < form.length; i++) {
                    String token = at < tokens.size() ? tokens.get(at) : "";
                    int place = at < tokens.size() ? places.get(at) : text.length();
                    if (!token.matches(form[i])) {
                        fault = 1;
                        return -1000100 - place;
                    }
                    if (i == 1 && !there(Integer.parseInt(token))) {
                        fault = 2;
                        return -1000100 - place;
                    }
                    if (i == 2 && token.equals("cap")) form = new String[] {"", "", "", "[0-9]{1,5}", ";"};
                    if (i == 2 && token.equals("paid")) form = new String[] {"", "", "", "[0-9]{1,5}", "@", "[0-9]{1,5}", ";"};
                    got.add(token);
                    at++;
                }
                told++;
                plans.add(got.toArray());
            }
            for (Object[] each : plans) {
                Tank t = tanks.get(Integer.parseInt((String) each[1]));
                t.way = (String) each[2];
                t.litres = t.way.equals("paid") ? Integer.parseInt((String) each[3]) : 0;
                t.own = t.way.equals("day") ? 0 : Integer.parseInt((String) each[each.length - 2]);
            }
            return told;
        }

        int quote(int house, int q) {
            return !there(house) || !in(q, 0, 5000) ? BAD : (int) cost(tanks.get(house), q);
        }

        private List<Integer> kinds(Tank t) {
            List<Integer> all = new ArrayList<>();
            boolean known = t.notes.size() >= 3 && !t.notes.contains(1) && !t.notes.contains(2);
            if (!t.notes.isEmpty() && t.notes.get(t.notes.size() - 1) == 1) all.add(3);
            if (known && t.b == 0 && t.d == 0) all.add(2);
            if (known) all.add(1);
            all.add(0);
            return all;
        }

        int kind(int house) {
            return there(house) ? kinds(tanks.get(house)).get(0) : BAD;
        }

        int as(int house, int kind) {
            if (!there(house) || !in(kind, 0, 3)) return BAD;
            return kinds(tanks.get(house)).contains(kind) ? tanks.get(house).holds : KIND;
        }

        int ask(int house, int what) {
            if (!there(house) || !in(what, 0, 1)) return BAD;
            trace.clear();
            Tank t = tanks.get(house);
            return (int) (what == 0 ? weight(t) : mark(t));
        }

        private long weight(Tank t) {
            int kind = kinds(t).get(0);
            List<Integer> bodies = List.of(List.of(10), List.of(11, 10), List.of(12, 11, 10), List.of(13, 10)).get(kind);
            trace.addAll(bodies);
            long sum = t.up - t.down;
            if (bodies.contains(11)) sum += t.notes.size();
            if (bodies.contains(12)) sum += t.a;
            return bodies.contains(13) ? sum + 5000 : sum;
        }

        private long mark(Tank t) {
            int kind = kinds(t).get(0);
            if (kind == 3) trace.add(22);
            if (kind == 2 || kind == 1) trace.add(21);
            trace.add(20);
            if (kind == 0) return t.holds;
            long weight = weight(t);
            return kind == 3 ? t.holds - weight : t.holds + weight;
        }

        int trace(int i) {
            return i >= 0 && i < Math.min(16, trace.size()) ? trace.get(i) : NONE;
        }

        long count(int what) {
            if (what == 2) {
                int due = 0;
                for (Tank t : tanks) if (due(t)) due++;
                return due;
            }
            long[] all = {tanks.size(), days, 0, stock, come, filled, paid, tape.length()};
            return in(what, 0, 7) ? all[what] : BAD;
        }
    }

    private static long seed = 1;
    private static int wrong = 0;
    private static final int[] answered = new int[22];
    private static final int[] refused = new int[22];

    private static int pick(int bound) {
        seed = seed * 6364136223846793005L + 1442695040888963407L;
        return (int) ((seed >>> 33) % bound);
    }

    /** Mostly within least and most, now and then at an edge or beyond it. */
    private static int near(int least, int most) {
        switch (pick(24)) {
            case 0: return least;
            case 1: return most;
            case 2: return least - 1;
            case 3: return most + 1;
            case 4: return pick(2) == 0 ? Integer.MIN_VALUE + pick(3) : Integer.MAX_VALUE - pick(3);
            default: return least + pick(most - least + 1);
        }
    }

    private static long[] arguments(int call, Model m) {
        int houses = Math.max(1, m.tanks.size());
        int house = near(0, houses - 1);
        switch (call) {
            case 0: return pick(3) == 0 ? new long[] {25 + pick(2), 25, 100 + pick(200)} : new long[] {near(0, 50), near(0, 50), near(100, pick(2) == 0 ? 5000 : 900)};
            case 1: return prior(pick(2) == 0 ? houses - 1 : house);
            case 2: return new long[] {pick(3) == 0 ? 0 : near(0, 40)};
            case 3: return new long[] {near(0, 10), near(0, 40)};
            case 4: return new long[] {house, near(0, 10)};
            case 5: return new long[] {house, near(0, 40)};
            case 6: return new long[] {near(0, pick(3) == 0 ? 100000 : 9000)};
            case 7: return new long[] {near(100, pick(2) == 0 ? 9000 : 800)};
            case 9: return new long[] {set(houses), near(0, 2)};
            case 10: return new long[] {set(houses), near(0, 8)};
            case 11: return new long[] {house, litres(house, m)};
            case 12: return new long[] {near(0, 1000)};
            case 16: return new long[] {house, near(0, 5000)};
            case 17: return new long[] {house};
            case 18: return new long[] {house, near(0, 3)};
            case 19: return new long[] {house, near(0, 1)};
            case 20: return new long[] {near(0, 5)};
            case 21: return new long[] {near(0, 7)};
            default: return new long[] {};
        }
    }

    private static long[] prior(int house) {
        int c = pick(51);
        int d = pick(3) == 0 ? 0 : pick(51);
        if (pick(6) == 0) return new long[] {house, near(0, 50), near(0, 50), near(0, 50), near(0, 50)};
        return new long[] {house, pick(c + 1), pick(d + 1), c, d};
    }

    private static int set(int houses) {
        if (pick(10) == 0) return near(0, 1 << 24);
        int set = 0;
        int size = 1 + pick(9);
        for (int i = 0; i < size; i++) set |= 1 << pick(houses);
        return set;
    }

    /** What a house with a true habit within its prior would take, or about that. */
    private static int litres(int house, Model m) {
        if (house < 0 || house >= m.tanks.size() || pick(12) == 0) return near(0, 2000);
        Model.Tank t = m.tanks.get(house);
        long n = t.colds.size();
        long s = Model.sum(t.colds);
        long least = n * t.a + s * t.b;
        long most = n * t.c + s * t.d;
        long q = pick(4) == 0 ? least + pick((int) Math.max(1, most - least + 1)) : n * ((t.a + t.c) / 2) + s * ((t.b + t.d) / 2);
        if (pick(8) == 0) q += pick(5) - 2;
        return (int) Math.min(q, t.holds + (pick(20) == 0 ? 1 : 0));
    }

    private static long[] call(int call, OilRound x, Model m) {
        long[] v = arguments(call, m);
        int[] a = new int[5];
        for (int i = 0; i < v.length; i++) a[i] = (int) v[i];
        switch (call) {
            case 0: return new long[] {x.house(a[0], a[1], a[2]), m.house(a[0], a[1], a[2])};
            case 1: return new long[] {x.prior(a[0], a[1], a[2], a[3], a[4]), m.prior(a[0], a[1], a[2], a[3], a[4])};
            case 2: return new long[] {x.day(a[0]), m.day(a[0])};
            case 3: return new long[] {x.look(a[0], a[1]), m.look(a[0], a[1])};
            case 4: return new long[] {x.told(a[0], a[1]), m.told(a[0], a[1])};
            case 5: return new long[] {x.lasts(a[0], a[1]), m.lasts(a[0], a[1])};
            case 6: return new long[] {x.stock(a[0]), m.stock(a[0])};
            case 7: return new long[] {x.lorry(a[0]), m.lorry(a[0])};
            case 8: return new long[] {x.calls(), m.calls()};
            case 9: return new long[] {x.round(a[0], a[1]), m.round(a[0], a[1])};
            case 10: return new long[] {x.stop(a[0], a[1]), m.stop(a[0], a[1])};
            case 11: return new long[] {x.fill(a[0], a[1]), m.fill(a[0], a[1])};
            case 12: return new long[] {x.price(a[0]), m.price(a[0])};
            case 13: return feed(x, m);
            case 14: return new long[] {x.plans(), m.plans()};
            case 15: return new long[] {x.fault(), m.fault};
            case 16: return new long[] {x.quote(a[0], a[1]), m.quote(a[0], a[1])};
            case 17: return new long[] {x.kind(a[0]), m.kind(a[0])};
            case 18: return new long[] {x.as(a[0], a[1]), m.as(a[0], a[1])};
            case 19: return new long[] {x.ask(a[0], a[1]), m.ask(a[0], a[1])};
            case 20: return new long[] {x.trace(a[0]), m.trace(a[0])};
            default: return new long[] {x.count(a[0]), m.count(a[0])};
        }
    }

    private static final String[] SCRAPS = {
        "house", "day", "cap", "paid", ";", "@", " ", "\n", "0", "1", "7", "23", "24", "00002", "99999", "123456", "houses",
        "x", "?", "\t", "A", "\u00e9"
    };

    /** A whole plan of tokens at a time, at times with a scrap among them. */
    private static long[] feed(OilRound x, Model m) {
        if (pick(12) == 0) {
            int n = near(1, 8);
            long w = seed * 31;
            return new long[] {x.feed(w, n), m.feed(w, n)};
        }
        String text = "house " + pick(pick(9) == 0 ? 26 : Math.max(1, m.tanks.size()));
        int way = pick(3);
        if (way == 0) text += " day ";
        if (way == 1) text += "cap " + pick(1100);
        if (way == 2) text += " paid\n" + pick(400) + "@" + pick(1100);
        text += ";";
        if (pick(9) == 0) {
            int at = pick(text.length());
            text = text.substring(0, at) + SCRAPS[pick(SCRAPS.length)] + text.substring(at + pick(2));
        }
        long[] answer = {0, 0};
        for (int i = 0; i < text.length(); i += 8) {
            long w = -1;
            int n = Math.min(8, text.length() - i);
            for (int k = 0; k < n; k++) w = w << 8 | text.charAt(i + k) & 255;
            answer = new long[] {x.feed(w, n), m.feed(w, n)};
            if (answer[0] != answer[1]) return answer;
        }
        return answer;
    }

    /** Often what the document's heart needs, else any. */
    private static int nextCall() {
        int[] often = {0, 0, 1, 2, 2, 2, 4, 6, 8, 8, 9, 10, 10, 11, 11, 11, 13, 13, 14, 16, 19, 19, 20, 20, 20, 18};
        return pick(3) == 0 ? pick(22) : often[pick(often.length)];
    }

    private static void run(int run) {
        OilRound x = new OilRound();
        Model m = new Model();
        int last = -1;
        for (int i = 0; i < CALLS; i++) {
            last = run % 2 == 0 && i < 20 ? (i % 2 == 0 ? 0 : 1) : nextCall();
            if (i == 20 && run % 2 == 0) last = 6;
            long[] both = call(last, x, m);
            answered[last]++;
            if (both[1] <= NONE && both[1] > -1000100) refused[last]++;
            if (both[0] != both[1]) {
                wrong++;
                System.out.println("run " + run + ", call " + i + " (" + last + ") answered " + both[0] + ", due is " + both[1]);
                return;
            }
        }
        for (int house = 0; house < 25; house++) {
            for (int what = 0; what < 11; what++) {
                if (x.told(house, what) == m.told(house, what)) continue;
                wrong++;
                System.out.println("run " + run + ": at its end house " + house + " told otherwise of " + what);
                return;
            }
        }
    }

    public static void main(String[] args) {
        for (int run = 0; run < RUNS; run++) run(run);
        for (int call = 0; call < answered.length; call++) {
            if (answered[call] > RUNS) continue;
            wrong++;
            System.out.println("call " + call + " was made but " + answered[call] + " times");
        }
        if (args.length > 0) System.out.println(Arrays.toString(answered) + "\n" + Arrays.toString(refused));
        System.out.println(wrong == 0 ? "all runs agree" : wrong + " runs do not agree");
        if (wrong != 0) System.exit(1);
    }
}
