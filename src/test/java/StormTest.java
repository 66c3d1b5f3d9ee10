import java.util.Random;

/** Random runs of calls, ordinary and wrong ones, each answer compared with the Model's. */
public final class StormTest {
    /** Behind the 512th call the document promises nothing. */
    private static final int RUNS = 6000, CALLS = 512;
    private static final int[] STRANGE = {Integer.MIN_VALUE, Integer.MIN_VALUE + 1, -100, -14, -2, -1, 0, 1, 4, 10, 40, 41,
        99, 100, 101, 334, 999, 1000, 9999, 10000, 999999, 1000000, Integer.MAX_VALUE - 3, Integer.MAX_VALUE};
    private static final String[] PIECES = {"(", ")", "+", "-", "*", "<", "=", " ", "\n", ";", "or", " and ", "not ", "bars",
        "odd", "gap", "year", "made", "sold", "doubt", "price", "open", "7", "0", "9999", "12345", "x", "#", ">", "A"};

    private final Random random;
    private final OldBottles x = new OldBottles();
    private final Model m = new Model();
    /** How often the arguments of a call are strange ones: one in so many. */
    private final int calm;
    /** How many calls make wines, and till which one calls make bottles, so that the others have something to speak of. */
    private final int wineCalls, bottleCalls;
    private String call;
    private int calls;

    private StormTest(long seed) {
        random = new Random(seed);
        calm = seed % 10 == 0 ? 2 : 60;
        wineCalls = seed % 3 == 0 ? 12 : 3;
        bottleCalls = seed % 4 == 0 ? 40 : 9;
    }

    public static void main(String[] args) {
        int wrong = 0;
        for (int seed = 1; seed <= RUNS && wrong < 10; seed++) {
            wrong += new StormTest(seed).run(seed);
        }
        System.out.println("StormTest: " + RUNS + " runs, " + wrong + " not as due");
        if (wrong != 0) {
            System.exit(1);
        }
    }

    private int run(int seed) {
        for (int i = 0; calls < CALLS; i++) {
            int sort = random.nextInt(34);
            long[] both = i < wineCalls ? wine() : i < bottleCalls ? bottle() : random.nextInt(600) == 0 ? back() : any(sort);
            if (both[0] != both[1]) {
                System.out.println("run " + seed + " call " + calls + ": " + call + " answered " + both[0] + ", due is " + both[1]);
                return 1;
            }
        }
        return 0;
    }

    private int pick(int from, int till) {
        if (random.nextInt(calm) == 0) {
            return STRANGE[random.nextInt(STRANGE.length)];
        }
        return from + random.nextInt(till - from + 1);
    }

    private int parts() {
        return random.nextInt(calm) == 0 ? pick(-5, 450)
                : random.nextInt(4) * 100 + random.nextInt(4) * 10 + random.nextInt(4);
    }

    private int theWine() {
        return pick(0, Math.max(0, m.count(0) - 1));
    }

    private int theBottle() {
        return pick(0, Math.max(0, m.count(1) - 1));
    }

    private long[] ask(String name, long got, long want, int... args) {
        calls++;
        StringBuilder s = new StringBuilder(name).append('(');
        for (int i = 0; i < args.length; i++) {
            s.append(i == 0 ? "" : ", ").append(args[i]);
        }
        call = s.append(')').toString();
        return new long[]{got, want};
    }

    private long[] wine() {
        int year = pick(20, 70), made = random.nextInt(6) == 0 ? 0 : pick(0, 12), parts = parts(), taste = pick(0, 999999);
        return ask("wine", x.wine(year, made, parts, taste), m.wine(year, made, parts, taste), year, made, parts, taste);
    }

    private long[] bottle() {
        int kind = pick(0, 5), wines = pick(0, 9) >= 9 ? pick(0, 99) : theWine() * 10 + theWine(), parts = parts();
        return ask("bottle", x.bottle(kind, wines, parts), m.bottle(kind, wines, parts), kind, wines, parts);
    }

    private long[] back() {
        return ask("back", x.back(), m.back());
    }

    private long[] any(int sort) {
        int b = theBottle(), w = theWine();
        switch (sort) {
            case 0: return random.nextInt(6) == 0 ? wine() : drunk(w);
            case 1: return random.nextInt(2) == 0 ? bottle() : taken(b);
            case 2: return book();
            case 3: return test();
            case 4: case 5: case 6: return told(b);
            case 7: return shows(b);
            case 8: case 9: case 10: case 11: return sale(b);
            case 12: case 13: return text();
            case 14: return force();
            case 15: return left(w);
            case 16: case 17: return odds(b);
            case 18: return source();
            case 19: return ask("worst", x.worst(), m.worst());
            case 20: return mix();
            case 21: return said(b, w);
            case 22: return tongue();
            case 23: return opened();
            case 24: return owed();
            case 25: return ask("chain", x.chain(b), m.chain(b), b);
            case 26: return falls(b);
            case 27: return saw();
            case 28: return random.nextInt(8) == 0 ? ask("image", x.image(), m.image()) : random.nextInt(8) == 0 ? back() : count();
            case 29: return sheet();
            case 30: case 31: return cell();
            case 32: return copy();
            default: return sales();
        }
    }

    private long[] taken(int b) {
        int k = pick(0, 5);
        return ask("taken", x.taken(b, k), m.taken(b, k), b, k);
    }

    private long[] drunk(int w) {
        int v = pick(0, 14);
        return ask("drunk", x.drunk(w, v), m.drunk(w, v), w, v);
    }

    private long[] book() {
        int part = pick(0, 2), which = pick(0, 3), from = pick(0, 45), till = pick(40, 99);
        return ask("book", x.book(part, which, from, till), m.book(part, which, from, till), part, which, from, till);
    }

    private long[] test() {
        int part = pick(0, 2), year = pick(0, 100);
        return ask("test", x.test(part, year), m.test(part, year), part, year);
    }

    private long[] told(int b) {
        int what = pick(0, 10);
        return ask("told", x.told(b, what), m.told(b, what), b, what);
    }

    private long[] shows(int b) {
        int which = pick(0, 5);
        return ask("shows", x.shows(b, which), m.shows(b, which), b, which);
    }

    private long[] sale(int b) {
        int owner = m.told(b, 7);
        int hands = owner >= 0 && random.nextInt(3) != 0 ? owner * 10 + random.nextInt(10) : pick(0, 99);
        int price = pick(0, 9999), year = pick(0, 99);
        return ask("sale", x.sale(b, hands, price, year), m.sale(b, hands, price, year), b, hands, price, year);
    }

    private String one(int deep) {
        int r = random.nextInt(deep > 5 ? 8 : 12);
        return r < 6 ? PIECES[13 + r] : r < 8 ? "" + random.nextInt(40) : r < 9 ? "-" + one(deep + 1) : "(" + e(deep + 1) + ")";
    }

    private String e(int deep) {
        StringBuilder s = new StringBuilder();
        int n = 1 + random.nextInt(deep == 0 ? 4 : 2);
        String[] signs = {"+", "-", "*", "<", "=", " or ", " and "};
        for (int i = 0; i < n; i++) {
            String sign = i == 0 ? "" : signs[random.nextInt(7)];
            boolean loose = i == 0 || sign.length() > 1;
            s.append(sign).append(loose && random.nextInt(6) == 0 ? "not " : "").append(one(deep));
        }
        return s.toString();
    }

    /** Feeds something like a text; when all fits, reads it. */
    private long[] text() {
        StringBuilder s = new StringBuilder("doubt " + e(0) + ";price " + e(0) + ";\nopen " + e(0) + ";");
        for (int n = random.nextInt(3); n > 0; n--) {
            int at = random.nextInt(s.length() + 1);
            if (random.nextBoolean()) {
                s.insert(at, PIECES[random.nextInt(PIECES.length)]);
            } else {
                s.delete(at, Math.min(s.length(), at + 1 + random.nextInt(3)));
            }
        }
        if (random.nextInt(20) == 0) {
            s.insert(0, (char) random.nextInt(256));
        }
        if (calls + s.length() / 8 + 3 > CALLS) {
            return count();
        }
        for (int at = 0; at < s.length(); at += 8) {
            int n = Math.min(8, s.length() - at);
            long bytes = random.nextLong();
            for (int i = 0; i < n; i++) {
                bytes = bytes & ~(255L << 8 * i) | (long) s.charAt(at + i) << 8 * i;
            }
            long[] fed = ask("feed", x.feed(n, bytes), m.feed(n, bytes), n);
            if (fed[0] != fed[1]) {
                return fed;
            }
        }
        if (random.nextInt(20) == 0) {
            int n = pick(-2, 10);
            return ask("feed", x.feed(n, 7), m.feed(n, 7), n);
        }
        long[] read = ask("text of " + s, x.text(), m.text());
        if (read[0] == read[1] && read[0] > 0) {
            return ask("force", x.force((int) read[0]), m.force((int) read[0]), (int) read[0]);
        }
        return read;
    }

    private long[] force() {
        int t = pick(0, m.count(3) - 1);
        return ask("force", x.force(t), m.force(t), t);
    }

    private long[] left(int w) {
        int what = pick(0, 2);
        return ask("left", x.left(w, what), m.left(w, what), w, what);
    }

    private long[] odds(int b) {
        int part = pick(0, 1);
        return ask("odds", x.odds(b, part), m.odds(b, part), b, part);
    }

    private long[] source() {
        int hand = pick(0, 9), what = pick(0, 1);
        return ask("source", x.source(hand, what), m.source(hand, what), hand, what);
    }

    private long[] mix() {
        int a = theWine(), b = theWine(), like = theWine(), what = pick(0, 1);
        return ask("mix", x.mix(a, b, like, what), m.mix(a, b, like, what), a, b, like, what);
    }

    private long[] said(int b, int w) {
        int tongue = pick(0, 2), told = pick(0, 1);
        return ask("said", x.said(tongue, b, told, w), m.said(tongue, b, told, w), tongue, b, told, w);
    }

    private long[] tongue() {
        int tongue = pick(0, 2), what = pick(0, 3);
        return ask("tongue", x.tongue(tongue, what), m.tongue(tongue, what), tongue, what);
    }

    private long[] opened() {
        int coin = random.nextBoolean() ? pick(0, 80) : pick(0, 999), what = pick(0, 2);
        return ask("opened", x.opened(coin, what), m.opened(coin, what), coin, what);
    }

    private long[] owed() {
        int hand = pick(0, 9);
        return ask("owed", x.owed(hand), m.owed(hand), hand);
    }

    private long[] falls(int b) {
        int share = pick(0, 100);
        return ask("falls", x.falls(b, share), m.falls(b, share), b, share);
    }

    private long[] saw() {
        int sale = pick(0, Math.max(0, m.count(2) - 1));
        return ask("saw", x.saw(sale), m.saw(sale), sale);
    }

    private long[] count() {
        int what = pick(0, 7);
        return ask("count", x.count(what), m.count(what), what);
    }

    private long[] sheet() {
        int sheet = pick(0, 3), sort = pick(-1, 2), n = pick(0, 40);
        return ask("sheet", x.sheet(sheet, sort, n), m.sheet(sheet, sort, n), sheet, sort, n);
    }

    private long[] cell() {
        int sheet = pick(0, 3), i = pick(0, 20), v = pick(0, 30);
        return ask("cell", x.cell(sheet, i, v), m.cell(sheet, i, v), sheet, i, v);
    }

    private long[] copy() {
        int sheet = pick(0, 3), i = pick(0, 12), other = pick(0, 3), j = pick(0, 12), n = pick(0, 20);
        return ask("copy", x.copy(sheet, i, other, j, n), m.copy(sheet, i, other, j, n), sheet, i, other, j, n);
    }

    private long[] sales() {
        int sheet = pick(0, 3), sort = pick(0, 2), from = pick(0, 8), n = pick(0, 10);
        return ask("sales", x.sales(sheet, sort, from, n), m.sales(sheet, sort, from, n), sheet, sort, from, n);
    }
}
