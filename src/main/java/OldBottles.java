import java.util.Arrays;

/** Wines, bottles that are said to be of them, and their sales; ../shared/DOC.md says what each call answers. */
public final class OldBottles {
    public static final int NONE = -1, BAD = -2, STATE = -3, FULL = -4;
    public static final long NO = -4611686018427387904L;

    private static final int NONE_SUCH = -5, FAULT = -100;
    private static final int MISSING = -11, OUTSIDE = -12, OTHER_SORT = -13, BELOW_ZERO = -14;

    private static final int WINES = 8, BOTTLES = 24, SALES = 40, TEXTS = 6, TONGUES = 6, GIVEN = 12;
    private static final int SHEETS = 4, ITEMS = 40, TAPE = 160, NESTING = 5, OPENABLE = 10;
    private static final int LAST_HAND = 9, LAST_YEAR = 99, NEVER_TESTED = 100, LAST_KIND = 5, LAST_SORT = 2;

    private static final int PARTS = 3, GLASS = 0, PAPER = 1, USES = 4;
    private static final int TRUE = 1, REFILLED = 2, MOVED = 3, MIXED = 4, NEVER = 5;

    private static final int[] UNDER = {NONE, 0, 0, TRUE, REFILLED, 0};
    private static final int[] WEIGHTS = {2, 5, 2, 3, 1, 1};
    /** By KIND the PARTS (bits) that show what the WINE has; the others show the BOTTLE's own. */
    private static final int[] SHOWN_AS_WINE = {0, 7, 1, 3, 3, 0};

    private static final String FIRST_RULE =
            "doubt bars * 20 + odd * 5 + gap ; price made - sold * 2 + 100 ; open 10 + odd ;";
    private static final int DOUBT_CLAUSE = 0, PRICE_CLAUSE = 1, OPEN_CLAUSE = 2;

    private final Wine[] wines = new Wine[WINES];
    private int wineCount;
    private final Bottle[] bottles = new Bottle[BOTTLES];
    private int bottleCount;
    private final Rule[] rules = new Rule[TEXTS];
    private int ruleCount;
    private int ruleInForce;
    private final Book pages = new Book();
    private final Ledger ledger = new Ledger();
    private final Reader reader = new Reader();
    private final Tongue[] tongues = new Tongue[TONGUES];
    private final Sheet[] sheets = new Sheet[SHEETS];
    private final Image kept = new Image();
    private final int[] names = new int[6];
    private final int[] stack = new int[TAPE];
    private final int[] doubts = new int[OPENABLE];
    private final int[] costs = new int[OPENABLE];

    public OldBottles() {
        for (int i = 0; i < TONGUES; i++) {
            tongues[i] = new Tongue();
        }
        for (int i = 0; i < SHEETS; i++) {
            sheets[i] = new Sheet();
        }
        for (int i = 0; i < FIRST_RULE.length(); i++) {
            reader.put(FIRST_RULE.charAt(i));
        }
        rules[0] = reader.read();
        ruleCount = 1;
    }

    // ---- wines, books, bottles

    public int wine(int year, int made, int parts, int taste) {
        if (!isUpTo(year, LAST_YEAR) || !isUpTo(made, 999) || !areParts(parts) || !isUpTo(taste, 999999)) {
            return BAD;
        }
        if (wineCount >= WINES) {
            return FULL;
        }
        wines[wineCount] = new Wine(wineCount, year, made, parts, taste);
        wineCount++;
        return wineCount - 1;
    }

    public int drunk(int wine, int v) {
        Wine w = wineAt(wine);
        if (w == null || !isUpTo(v, 999)) {
            return BAD;
        }
        int was = w.drunk;
        w.drunk = v;
        return was;
    }

    public int book(int part, int which, int from, int till) {
        if (Book.place(part, which) == NONE || !isUpTo(till, LAST_YEAR) || !isUpTo(from, till)) {
            return BAD;
        }
        pages.write(part, which, from, till);
        return 1;
    }

    public int test(int part, int year) {
        if (!isBelow(part, PARTS) || !isUpTo(year, NEVER_TESTED)) {
            return BAD;
        }
        int was = pages.testedFrom[part];
        pages.testedFrom[part] = year;
        return was;
    }

    public int bottle(int kind, int wines, int parts) {
        Wine label = wines < 0 ? null : wineAt(wines / 10);
        Wine inside = wines < 0 ? null : wineAt(wines % 10);
        if (!isUpTo(kind, LAST_KIND) || label == null || inside == null || !areParts(parts)) {
            return BAD;
        }
        if (bottleCount >= BOTTLES) {
            return FULL;
        }
        bottles[bottleCount] = new Bottle(kind, label, inside, parts);
        bottleCount++;
        return bottleCount - 1;
    }

    public int told(int bottle, int what) {
        Bottle b = bottleAt(bottle);
        if (b == null) {
            return NONE_SUCH;
        }
        switch (what) {
            case 0: return b.kind;
            case 1: return b.label.number;
            case 2: return barBits(b);
            case 3: return oddBits(b);
            case 4: return isBarred(b) ? 1 : 0;
            case 5: return b.gaps;
            case 6: return weightOf(b.kind);
            case 7: return b.owner;
            case 8: return judged(b, DOUBT_CLAUSE);
            case 9: return judged(b, PRICE_CLAUSE);
            case 10: return judged(b, OPEN_CLAUSE);
            default: return NONE_SUCH;
        }
    }

    public int shows(int bottle, int which) {
        Bottle b = bottleAt(bottle);
        if (b == null || !isBelow(which, PARTS + 3)) {
            return BAD;
        }
        return which < PARTS ? partOf(b.shown, which) : b.tasted(which - PARTS);
    }

    // ---- sales, texts

    public int sale(int bottle, int hands, int price, int year) {
        Bottle b = bottleAt(bottle);
        if (b == null || !isUpTo(hands, 99) || hands / 10 == hands % 10 || !isUpTo(price, 9999)
                || !isUpTo(year, LAST_YEAR) || year < b.lastYear) {
            return BAD;
        }
        if (ledger.size >= SALES) {
            return FULL;
        }
        int number = ledger.write(bottle, hands, price, year);
        b.passOn(hands / 10, hands % 10, year);
        return number;
    }

    public int feed(int n, long bytes) {
        if (n < 1 || n > 8) {
            return BAD;
        }
        if (n > TAPE - reader.size) {
            return FULL;
        }
        for (int i = 0; i < n; i++) {
            reader.put((int) (bytes >>> (8 * i)));
        }
        return reader.size;
    }

    public int text() {
        if (ruleCount >= TEXTS) {
            return FULL;
        }
        Rule read = reader.read();
        if (read == null) {
            return FAULT - reader.fault;
        }
        rules[ruleCount] = read;
        ruleCount++;
        return ruleCount - 1;
    }

    public int force(int text) {
        if (!isBelow(text, ruleCount)) {
            return BAD;
        }
        int was = ruleInForce;
        ruleInForce = text;
        return was;
    }

    // ---- what follows

    public int left(int wine, int what) {
        Wine w = wineAt(wine);
        if (w == null) {
            return BAD;
        }
        switch (what) {
            case 0: return w.remaining();
            case 1: return Math.max(0, soldOf(wine) - w.remaining());
            case 2: return soldOf(wine);
            default: return BAD;
        }
    }

    public long odds(int bottle, int part) {
        Bottle b = bottleAt(bottle);
        if (b == null || !isBelow(part, 2)) {
            return NO;
        }
        if (isBarred(b)) {
            // 0 by 1
            return part;
        }
        int doubt = judged(b, DOUBT_CLAUSE);
        int t = weightOf(TRUE) * (100 - doubt);
        int f = weightOf(isOfKind(b.kind, TRUE) ? NEVER : b.kind) * (doubt + 1);
        int divisor = commonDivisor(t, t + f);
        if (divisor == 0) {
            return part;
        }
        return (part == 0 ? t : t + f) / divisor;
    }

    public int source(int hand, int what) {
        if (!isUpTo(hand, LAST_HAND) || !isBelow(what, 2)) {
            return BAD;
        }
        return soldBy(hand, what == 1);
    }

    public int worst() {
        int worst = NONE, worstSales = 0, worstBarred = 0;
        for (int hand = 0; hand <= LAST_HAND; hand++) {
            int all = soldBy(hand, false);
            int barred = soldBy(hand, true);
            // shares are compared crosswise, so that nothing is cut
            int more = barred * worstSales - worstBarred * all;
            if (all > 0 && (worst == NONE || more > 0 || more == 0 && all > worstSales)) {
                worst = hand;
                worstSales = all;
                worstBarred = barred;
            }
        }
        return worst;
    }

    public int mix(int a, int b, int like, int what) {
        Wine first = wineAt(a);
        Wine second = wineAt(b);
        Wine aim = wineAt(like);
        if (first == null || second == null || aim == null || a == b || !isBelow(what, 2)) {
            return BAD;
        }
        int best = 0, least = far(first, second, 0, aim);
        for (int k = 1; k <= 10; k++) {
            int far = far(first, second, k, aim);
            if (far < least) {
                best = k;
                least = far;
            }
        }
        return what == 0 ? best : least;
    }

    public int said(int tongue, int bottle, int told, int wine) {
        Tongue t = tongueAt(tongue);
        Bottle b = bottleAt(bottle);
        if (t == null || b == null || !isBelow(told, 2) || !isBelow(wine, wineCount)) {
            return BAD;
        }
        if (t.given >= GIVEN) {
            return FULL;
        }
        t.judge(b.within().number, b.label.number, told == 1, wine);
        return t.given;
    }

    public int tongue(int tongue, int what) {
        Tongue t = tongueAt(tongue);
        if (t == null) {
            return BAD;
        }
        switch (what) {
            case 0: return t.right;
            case 1: return t.untold;
            case 2: return t.takenIn;
            case 3: return t.misled;
            default: return BAD;
        }
    }

    public int opened(int coin, int what) {
        if (!isUpTo(coin, 999) || !isBelow(what, 3)) {
            return BAD;
        }
        int some = weighDoubts();
        int best = 0, bestDoubt = 0, bestCost = 0, doubt = 0, cost = 0;
        for (int bits = 1; bits < 1 << some; bits++) {
            // counting up by 1 turns one bit on and all below it off: both sums follow without being made anew
            int on = lowestBit(bits);
            doubt += doubts[on] - sumBelow(doubts, on);
            cost += costs[on] - sumBelow(costs, on);
            if (cost <= coin && (doubt > bestDoubt || doubt == bestDoubt && cost < bestCost)) {
                best = bits;
                bestDoubt = doubt;
                bestCost = cost;
            }
        }
        return what == 0 ? best : what == 1 ? bestDoubt : bestCost;
    }

    public long owed(int hand) {
        if (!isUpTo(hand, LAST_HAND)) {
            return NO;
        }
        long sum = 0;
        for (int i = 0; i < ledger.size; i++) {
            boolean sold = ledger.seller[i] == hand;
            boolean bought = ledger.buyer[i] == hand;
            if ((sold || bought) && isBarred(bottleAt(ledger.bottle[i]))) {
                sum += bought ? ledger.price[i] : -ledger.price[i];
            }
        }
        return sum;
    }

    public int chain(int bottle) {
        Bottle b = bottleAt(bottle);
        return b == null ? BAD : b.unbroken;
    }

    public long falls(int bottle, int share) {
        Bottle found = bottleAt(bottle);
        if (found == null || !isUpTo(share, 100)) {
            return NO;
        }
        int touched = ledger.bottlesOf(ledger.handsOf(bottle));
        long sum = 0;
        for (int i = 0; i < bottleCount; i++) {
            Bottle b = bottles[i];
            if (b != null && (b.label.number == found.label.number || (touched >> i & 1) == 1) && !isBarred(b)) {
                sum += judged(b, PRICE_CLAUSE);
            }
        }
        return sum * share / 100;
    }

    public int saw(int sale) {
        if (!isBelow(sale, ledger.size)) {
            return BAD;
        }
        Bottle b = bottleAt(ledger.bottle[sale]);
        for (int part = 0; part < PARTS; part++) {
            if (b != null && pages.bars(b, part) && pages.testedFrom[part] <= ledger.year[sale]) {
                return 1;
            }
        }
        return 0;
    }

    public int image() {
        for (int i = 0; i < wineCount; i++) {
            Wine w = wines[i];
            kept.drunk[i] = w == null ? 0 : w.drunk;
        }
        kept.wines = wineCount;
        kept.pages.become(pages);
        kept.rule = ruleInForce;
        kept.sales = ledger.size;
        return kept.sales;
    }

    public int back() {
        if (kept.sales == NONE) {
            return STATE;
        }
        for (int i = 0; i < kept.wines; i++) {
            Wine w = wines[i];
            if (w != null) {
                w.drunk = kept.drunk[i];
            }
        }
        pages.become(kept.pages);
        ruleInForce = kept.rule;
        ledger.size = kept.sales;
        passOnAgain();
        return ledger.size;
    }

    public int count(int what) {
        switch (what) {
            case 0: return wineCount;
            case 1: return bottleCount;
            case 2: return ledger.size;
            case 3: return ruleCount;
            case 4: return reader.size;
            case 5: return ruleInForce;
            case 6: return barredBottles();
            case 7: return soldBottles();
            default: return BAD;
        }
    }

    // ---- the host

    public int sheet(int sheet, int sort, int n) {
        Sheet s = sheetAt(sheet);
        if (s == null || sort < NONE || sort > LAST_SORT || sort != NONE && n > ITEMS) {
            return BAD;
        }
        if (sort != NONE && n < 0) {
            return BELOW_ZERO;
        }
        s.become(sort, sort == NONE ? 0 : n);
        return 1;
    }

    public int cell(int sheet, int i, int v) {
        Sheet s = sheetAt(sheet);
        if (s == null) {
            return BAD;
        }
        if (s.sort == NONE) {
            return MISSING;
        }
        if (!isBelow(i, s.size)) {
            return OUTSIDE;
        }
        s.items[i] = s.cut(v);
        return 1;
    }

    public int copy(int sheet, int i, int other, int j, int n) {
        Sheet from = sheetAt(sheet);
        Sheet to = sheetAt(other);
        if (from == null || to == null) {
            return BAD;
        }
        if (from.sort == NONE || to.sort == NONE) {
            return MISSING;
        }
        if (from.sort != to.sort) {
            return OTHER_SORT;
        }
        if (!from.has(i, n) || !to.has(j, n)) {
            return OUTSIDE;
        }
        System.arraycopy(from.items, i, to.items, j, n);
        return n;
    }

    public int sales(int sheet, int sort, int from, int n) {
        Sheet s = sheetAt(sheet);
        if (s == null || !isUpTo(sort, LAST_SORT) || !isUpTo(n, 10)) {
            return BAD;
        }
        if (s.sort == NONE) {
            return MISSING;
        }
        if (s.sort != sort) {
            return OTHER_SORT;
        }
        int came = 0;
        for (int k = 0; k < n; k++) {
            int at = from + 4 * k;
            if (!s.has(at, 4)) {
                return OUTSIDE;
            }
            if (sale(s.items[at], s.items[at + 1], s.items[at + 2], s.items[at + 3]) >= 0) {
                came++;
            }
        }
        return came;
    }

    public int taken(int bottle, int k) {
        if (!isUpTo(k, LAST_KIND)) {
            return BAD;
        }
        Bottle b = bottleAt(bottle);
        if (b == null) {
            return MISSING;
        }
        return isOfKind(b.kind, k) ? b.inside.number : OTHER_SORT;
    }

    // ---- helpers

    private static boolean isUpTo(int v, int most) {
        return v >= 0 && v <= most;
    }

    private static boolean isBelow(int v, int end) {
        return v >= 0 && v < end;
    }

    private static boolean areParts(int parts) {
        return isUpTo(parts, 333) && parts / 10 % 10 < USES && parts % 10 < USES;
    }

    private static int partOf(int parts, int part) {
        return part == GLASS ? parts / 100 : part == PAPER ? parts / 10 % 10 : parts % 10;
    }

    private static int weightOf(int kind) {
        return isUpTo(kind, LAST_KIND) ? WEIGHTS[kind] : 0;
    }

    private static boolean isOfKind(int kind, int above) {
        int at = kind;
        for (int n = 0; n <= LAST_KIND && isUpTo(at, LAST_KIND) && at != above; n++) {
            at = UNDER[at];
        }
        return at == above;
    }

    private static int commonDivisor(int a, int b) {
        int x = a, y = b;
        // the smaller one halves at least every second step
        for (int n = 0; n < 100 && y != 0; n++) {
            int rest = x % y;
            x = y;
            y = rest;
        }
        return x;
    }

    private Wine wineAt(int i) {
        return isBelow(i, wineCount) && i < WINES ? wines[i] : null;
    }

    private Bottle bottleAt(int i) {
        return isBelow(i, bottleCount) && i < BOTTLES ? bottles[i] : null;
    }

    private Tongue tongueAt(int i) {
        return isBelow(i, TONGUES) ? tongues[i] : null;
    }

    private Sheet sheetAt(int i) {
        return isBelow(i, SHEETS) ? sheets[i] : null;
    }

    private int barBits(Bottle b) {
        int bits = 0;
        for (int part = 0; part < PARTS; part++) {
            if (pages.bars(b, part)) {
                bits |= 1 << part;
            }
        }
        return bits;
    }

    private int oddBits(Bottle b) {
        int bits = 0;
        for (int part = 0; part < PARTS; part++) {
            if (partOf(b.shown, part) != partOf(b.label.parts, part) && !pages.bars(b, part)) {
                bits |= 1 << part;
            }
        }
        return bits;
    }

    private boolean isBarred(Bottle b) {
        return b != null && (b.label.made == 0 || barBits(b) != 0);
    }

    private int barredBottles() {
        int n = 0;
        for (int i = 0; i < bottleCount; i++) {
            if (isBarred(bottles[i])) {
                n++;
            }
        }
        return n;
    }

    private int soldBottles() {
        int n = 0;
        for (int i = 0; i < bottleCount; i++) {
            Bottle b = bottles[i];
            if (b != null && b.timesSold > 0) {
                n++;
            }
        }
        return n;
    }

    private int soldOf(int wine) {
        int n = 0;
        for (int i = 0; i < bottleCount; i++) {
            Bottle b = bottles[i];
            if (b != null && b.label.number == wine && b.timesSold > 0) {
                n++;
            }
        }
        return n;
    }

    private int soldBy(int hand, boolean onlyBarred) {
        int n = 0;
        for (int i = 0; i < ledger.size; i++) {
            if (ledger.seller[i] == hand && (!onlyBarred || isBarred(bottleAt(ledger.bottle[i])))) {
                n++;
            }
        }
        return n;
    }

    /** What THE RULE says of a BOTTLE in one of its clauses, within that clause's bounds. */
    private int judged(Bottle b, int clause) {
        Rule rule = isBelow(ruleInForce, ruleCount) && ruleInForce < TEXTS ? rules[ruleInForce] : null;
        int value = 0;
        if (rule != null) {
            learnNames(b);
            value = rule.valueOf(clause, names, stack);
        }
        int least = clause == OPEN_CLAUSE ? 1 : 0;
        int most = clause == DOUBT_CLAUSE ? 99 : clause == PRICE_CLAUSE ? 9999 : 999;
        return Math.max(least, Math.min(most, value));
    }

    private void learnNames(Bottle b) {
        names[Reader.BARS] = Integer.bitCount(barBits(b));
        names[Reader.ODD] = Integer.bitCount(oddBits(b));
        names[Reader.GAP] = b.gaps;
        names[Reader.YEAR] = b.label.year;
        names[Reader.MADE] = b.label.made;
        names[Reader.SOLD] = soldOf(b.label.number);
    }

    private static int far(Wine a, Wine b, int k, Wine aim) {
        int sum = 0;
        for (int i = 0; i < 3; i++) {
            int mixed = (k * a.taste(i) + (10 - k) * b.taste(i)) / 10;
            sum += Math.abs(mixed - aim.taste(i));
        }
        return sum;
    }

    /** Fills doubts and costs of the BOTTLES that can be opened; how many these are. */
    private int weighDoubts() {
        int some = Math.min(bottleCount, OPENABLE);
        for (int i = 0; i < some; i++) {
            Bottle b = bottles[i];
            doubts[i] = b == null ? 0 : judged(b, DOUBT_CLAUSE);
            costs[i] = b == null ? 0 : judged(b, OPEN_CLAUSE);
        }
        return some;
    }

    /** The place of the lowest bit among those of BOTTLES that can be opened. */
    private static int lowestBit(int bits) {
        int at = 0;
        for (; at < OPENABLE - 1 && (bits >> at & 1) == 0; at++) {
        }
        return at;
    }

    private static int sumBelow(int[] row, int end) {
        int sum = 0;
        for (int i = 0; i < end && i < row.length; i++) {
            sum += row[i];
        }
        return sum;
    }

    /** What BOTTLES know of their SALES is made anew from the ledger, as some of it may be laid back. */
    private void passOnAgain() {
        for (int i = 0; i < bottleCount; i++) {
            Bottle b = bottles[i];
            if (b != null) {
                b.forgetSales();
            }
        }
        for (int i = 0; i < ledger.size; i++) {
            Bottle b = bottleAt(ledger.bottle[i]);
            if (b != null) {
                b.passOn(ledger.seller[i], ledger.buyer[i], ledger.year[i]);
            }
        }
    }

    static final class Wine {
        final int number;
        final int year;
        final int made;
        final int parts;
        final int tastes;
        int drunk;

        Wine(int number, int year, int made, int parts, int tastes) {
            this.number = number;
            this.year = year;
            this.made = made;
            this.parts = parts;
            this.tastes = tastes;
        }

        int taste(int k) {
            return k == 0 ? tastes / 10000 : k == 1 ? tastes / 100 % 100 : tastes % 100;
        }

        int remaining() {
            return Math.max(0, made - drunk);
        }
    }

    /** When each PART's 0 .. 3 was used, and from when each PART can be tested. */
    static final class Book {
        final int[] from = new int[PARTS * USES];
        final int[] till = new int[PARTS * USES];
        final int[] testedFrom = new int[PARTS];

        Book() {
            Arrays.fill(till, LAST_YEAR);
            Arrays.fill(testedFrom, NEVER_TESTED);
        }

        static int place(int part, int which) {
            return part >= 0 && part < PARTS && which >= 0 && which < USES ? part * USES + which : NONE;
        }

        void write(int part, int which, int first, int last) {
            int at = place(part, which);
            if (at != NONE) {
                from[at] = first;
                till[at] = last;
            }
        }

        boolean bars(Bottle b, int part) {
            int at = place(part, partOf(b.shown, part));
            return at == NONE || b.label.year < from[at] || b.label.year > till[at];
        }

        void become(Book other) {
            System.arraycopy(other.from, 0, from, 0, PARTS * USES);
            System.arraycopy(other.till, 0, till, 0, PARTS * USES);
            System.arraycopy(other.testedFrom, 0, testedFrom, 0, PARTS);
        }
    }

    static final class Bottle {
        final int kind;
        final Wine label;
        final Wine inside;
        /** What its PARTS show, as in PARTS of a WINE: neither its own nor its WINE's ever change. */
        final int shown;
        int timesSold;
        int owner;
        int gaps;
        int unbroken;
        int lastYear;

        Bottle(int kind, Wine label, Wine inside, int own) {
            this.kind = kind;
            this.label = label;
            this.inside = inside;
            this.shown = shownParts(kind, label.parts, own);
            this.owner = NONE;
        }

        private static int shownParts(int kind, int ofWine, int own) {
            int asWine = isUpTo(kind, LAST_KIND) ? SHOWN_AS_WINE[kind] : 0;
            int shown = 0;
            for (int part = 0; part < PARTS; part++) {
                shown = shown * 10 + partOf((asWine >> part & 1) == 1 ? ofWine : own, part);
            }
            return shown;
        }

        int tasted(int k) {
            switch (kind) {
                case TRUE:
                case MOVED: return label.taste(k);
                case MIXED: return (inside.taste(k) + label.taste(k)) / 2;
                case NEVER: return Math.max(0, inside.taste(k) - 9);
                default: return inside.taste(k);
            }
        }

        Wine within() {
            return isOfKind(kind, TRUE) ? label : inside;
        }

        void passOn(int seller, int buyer, int year) {
            boolean follows = timesSold > 0 && seller == owner;
            if (timesSold > 0 && !follows) {
                gaps++;
            }
            unbroken = follows ? unbroken + 1 : 1;
            timesSold++;
            owner = buyer;
            lastYear = year;
        }

        void forgetSales() {
            timesSold = 0;
            owner = NONE;
            gaps = 0;
            unbroken = 0;
            lastYear = 0;
        }
    }

    /** The SALES, in rows that are used again when some are laid back. */
    static final class Ledger {
        final int[] bottle = new int[SALES];
        final int[] seller = new int[SALES];
        final int[] buyer = new int[SALES];
        final int[] price = new int[SALES];
        final int[] year = new int[SALES];
        int size;

        int write(int bottleNumber, int hands, int coin, int when) {
            if (size >= SALES) {
                return FULL;
            }
            bottle[size] = bottleNumber;
            seller[size] = hands / 10;
            buyer[size] = hands % 10;
            price[size] = coin;
            year[size] = when;
            size++;
            return size - 1;
        }

        int handsOf(int bottleNumber) {
            int hands = 0;
            for (int i = 0; i < size; i++) {
                if (bottle[i] == bottleNumber) {
                    hands |= 1 << seller[i] | 1 << buyer[i];
                }
            }
            return hands;
        }

        int bottlesOf(int hands) {
            int touched = 0;
            for (int i = 0; i < size; i++) {
                if ((hands & (1 << seller[i] | 1 << buyer[i])) != 0) {
                    touched |= 1 << bottle[i];
                }
            }
            return touched;
        }
    }

    /** Counts alone: a BOTTLE never changes what it is said to be nor what is WITHIN. */
    static final class Tongue {
        int given;
        int untold;
        int right;
        int misled;
        int takenIn;

        void judge(int within, int label, boolean wasTold, int answer) {
            given++;
            if (!wasTold) {
                untold++;
                right += answer == within ? 1 : 0;
            } else if (within != label) {
                misled++;
                takenIn += answer == label ? 1 : 0;
            }
        }
    }

    static final class Sheet {
        final int[] items = new int[ITEMS];
        int sort = NONE;
        int size;

        void become(int newSort, int n) {
            Arrays.fill(items, 0);
            sort = newSort;
            size = n;
        }

        int cut(int v) {
            return sort == 0 ? (byte) v : sort == 1 ? (short) v : v;
        }

        /** Whether n items from i on stand in it; n may be as large as an int, so nothing is added to it. */
        boolean has(int i, int n) {
            return i >= 0 && n >= 0 && i <= size - n;
        }
    }

    static final class Image {
        final int[] drunk = new int[WINES];
        final Book pages = new Book();
        int wines;
        int rule;
        int sales = NONE;
    }

    /**
     * A TEXT as three runs of codes, operands ahead of their sign: 0 and above is a number, -1 to -6 a NAME,
     * below that a sign (its token, negated, or Reader.NEGATE).
     */
    static final class Rule {
        final int[] code;
        final int priceAt;
        final int openAt;

        Rule(int[] code, int priceAt, int openAt) {
            this.code = code;
            this.priceAt = priceAt;
            this.openAt = openAt;
        }

        int valueOf(int clause, int[] names, int[] stack) {
            int from = clause == DOUBT_CLAUSE ? 0 : clause == PRICE_CLAUSE ? priceAt : openAt;
            int till = clause == DOUBT_CLAUSE ? priceAt : clause == PRICE_CLAUSE ? openAt : code.length;
            int height = 0;
            for (int i = from; i >= 0 && i < till && i < code.length; i++) {
                int c = code[i];
                if (c >= -names.length) {
                    if (height < stack.length) {
                        stack[height] = c >= 0 ? c : names[-1 - c];
                        height++;
                    }
                } else if (c == Reader.NEGATE || c == -Reader.NOT) {
                    if (height >= 1) {
                        int v = stack[height - 1];
                        stack[height - 1] = c == Reader.NEGATE ? -v : truth(v == 0);
                    }
                } else if (height >= 2) {
                    height--;
                    stack[height - 1] = joined(-c, stack[height - 1], stack[height]);
                }
            }
            return height > 0 ? stack[height - 1] : 0;
        }

        private static int joined(int sign, int a, int b) {
            switch (sign) {
                case Reader.OR: return truth(a != 0 || b != 0);
                case Reader.AND: return truth(a != 0 && b != 0);
                case '<': return truth(a < b);
                case '=': return truth(a == b);
                case '+': return a + b;
                case '-': return a - b;
                default: return a * b;
            }
        }

        private static int truth(boolean is) {
            return is ? 1 : 0;
        }
    }

    /** THE TAPE, and how a TEXT is read from it. */
    static final class Reader {
        /** In the order of WORDS; a sign is its own token. */
        static final int BARS = 0, ODD = 1, GAP = 2, YEAR = 3, MADE = 4, SOLD = 5,
                DOUBT = 6, PRICE = 7, OPEN = 8, OR = 9, AND = 10, NOT = 11;
        static final int NUMBER = 12, END = 13, WRONG = 14;
        static final int NEGATE = -100;
        private static final String WORDS = "bars odd gap year made sold doubt price open or and not ";
        private static final String SIGNS = "();+-*<=";

        private final byte[] tape = new byte[TAPE];
        private final int[] code = new int[TAPE];
        int size;
        int fault = NONE;
        private int place;
        private int token;
        private int tokenAt;
        private int number;
        private int codeSize;

        void put(int b) {
            if (size < TAPE) {
                tape[size] = (byte) b;
                size++;
            }
        }

        /** The TEXT on THE TAPE, or null with its FAULT; THE TAPE is empty then. */
        Rule read() {
            place = 0;
            codeSize = 0;
            fault = NONE;
            next();
            readClause(DOUBT);
            int priceAt = codeSize;
            readClause(PRICE);
            int openAt = codeSize;
            readClause(OPEN);
            take(END);
            size = 0;
            return fault == NONE ? new Rule(Arrays.copyOf(code, codeSize), priceAt, openAt) : null;
        }

        private void readClause(int key) {
            take(key);
            readOr(0);
            take(';');
        }

        private void readOr(int depth) {
            readAnd(depth);
            for (int n = 0; n < TAPE && token == OR; n++) {
                next();
                readAnd(depth);
                emit(-OR);
            }
        }

        private void readAnd(int depth) {
            readNot(depth);
            for (int n = 0; n < TAPE && token == AND; n++) {
                next();
                readNot(depth);
                emit(-AND);
            }
        }

        private void readNot(int depth) {
            if (token != NOT) {
                readCompared(depth);
            } else if (depth < NESTING) {
                next();
                readNot(depth + 1);
                emit(-NOT);
            } else {
                fail();
            }
        }

        private void readCompared(int depth) {
            readSum(depth);
            if (token == '<' || token == '=') {
                int sign = token;
                next();
                readSum(depth);
                emit(-sign);
            }
        }

        private void readSum(int depth) {
            readTerm(depth);
            for (int n = 0; n < TAPE && (token == '+' || token == '-'); n++) {
                int sign = token;
                next();
                readTerm(depth);
                emit(-sign);
            }
        }

        private void readTerm(int depth) {
            readOne(depth);
            for (int n = 0; n < TAPE && token == '*'; n++) {
                next();
                readOne(depth);
                emit(-'*');
            }
        }

        private void readOne(int depth) {
            if (token == NUMBER) {
                emit(number);
                next();
            } else if (token >= BARS && token <= SOLD) {
                emit(-1 - token);
                next();
            } else if (token == '-' && depth < NESTING) {
                next();
                readOne(depth + 1);
                emit(NEGATE);
            } else if (token == '(' && depth < NESTING) {
                next();
                readOr(depth + 1);
                take(')');
            } else {
                fail();
            }
        }

        private void take(int wanted) {
            if (token == wanted) {
                next();
            } else {
                fail();
            }
        }

        /** Only the first FAULT counts; behind it no token fits any more, so that reading runs out. */
        private void fail() {
            if (fault == NONE) {
                fault = tokenAt;
            }
            token = WRONG;
        }

        private void emit(int c) {
            if (codeSize < TAPE) {
                code[codeSize] = c;
                codeSize++;
            }
        }

        private void next() {
            place = endOf(' ', place);
            tokenAt = place;
            if (place >= size) {
                token = END;
                return;
            }
            int c = tape[place] & 255;
            int sort = sortOf(c);
            if (sort == 'a' || sort == '0') {
                place = endOf(sort, place);
                token = sort == 'a' ? wordToken() : numberToken();
            } else {
                place++;
                token = SIGNS.indexOf((char) c) >= 0 ? c : WRONG;
            }
        }

        private static int sortOf(int c) {
            if (c == ' ' || c == '\n') {
                return ' ';
            }
            return c >= 'a' && c <= 'z' ? 'a' : c >= '0' && c <= '9' ? '0' : NONE;
        }

        private int endOf(int sort, int from) {
            int end = from;
            for (; end < size && end < TAPE && sortOf(tape[end] & 255) == sort; end++) {
            }
            return end;
        }

        private int numberToken() {
            number = 0;
            for (int i = tokenAt; i < place; i++) {
                number = number * 10 + (tape[i] - '0');
            }
            return place - tokenAt <= 4 ? NUMBER : WRONG;
        }

        private int wordToken() {
            int word = 0, at = tokenAt;
            boolean same = true;
            for (int i = 0; i < WORDS.length(); i++) {
                char c = WORDS.charAt(i);
                if (c != ' ') {
                    same = same && at < place && tape[at] == c;
                    at++;
                } else if (same && at == place) {
                    return word;
                } else {
                    word++;
                    at = tokenAt;
                    same = true;
                }
            }
            return WRONG;
        }
    }
}
