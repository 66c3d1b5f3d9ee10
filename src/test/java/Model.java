import java.util.ArrayList;
import java.util.HashSet;
import java.util.List;
import java.util.Map;
import java.util.Set;

/**
 * The document once more, written for plainness: kinds are classes, texts are token lists and trees, nothing is
 * counted ahead. Shares no code with OldBottles, so that a slip in one shows as a difference.
 */
final class Model {
    private record Wine(int year, int made, int[] parts, int[] taste) { }

    private record Sale(int bottle, int seller, int buyer, int price, int year) { }

    private record Said(int bottle, boolean told, int wine) { }

    private static class Bottle {
        Wine said, in;
        int saidNumber, inNumber;
        int[] own;

        int shows(int part) { return own[part]; }
        int tastes(int k) { return in.taste[k]; }
        int weight() { return 2; }
        boolean isTrue() { return this instanceof TrueOne; }
    }

    private static class TrueOne extends Bottle {
        @Override int shows(int part) { return said.parts[part]; }
        @Override int tastes(int k) { return said.taste[k]; }
        @Override int weight() { return super.weight() + 3; }
    }

    private static class Refilled extends Bottle {
        @Override int shows(int part) { return part == 0 ? said.parts[0] : super.shows(part); }
    }

    private static final class Moved extends TrueOne {
        @Override int shows(int part) { return part == 2 ? own[2] : super.shows(part); }
        @Override int weight() { return super.weight() - 2; }
    }

    private static final class Mixed extends Refilled {
        @Override int shows(int part) { return part == 1 ? said.parts[1] : super.shows(part); }
        @Override int tastes(int k) { return (super.tastes(k) + said.taste[k]) / 2; }
        @Override int weight() { return super.weight() - 1; }
    }

    private static final class Never extends Bottle {
        @Override int tastes(int k) { return Math.max(0, super.tastes(k) - 9); }
        @Override int weight() { return super.weight() - 1; }
    }

    private static final Class<?>[] KINDS =
            {Bottle.class, TrueOne.class, Refilled.class, Moved.class, Mixed.class, Never.class};

    private interface Exp { int of(Map<String, Integer> names); }

    private record Token(String text, int at) { }

    private static final class Fault extends RuntimeException {
        final int at;
        Fault(int at) { this.at = at; }
    }

    private static final class Parser {
        final String text;
        int at;
        int open;

        Parser(String text) { this.text = text; }

        Token peek() {
            int i = at;
            while (i < text.length() && (text.charAt(i) == 32 || text.charAt(i) == 10)) i++;
            int from = i;
            if (i == text.length()) return new Token("", i);
            String rest = text.substring(i);
            java.util.regex.Matcher m = java.util.regex.Pattern.compile("^([a-z]+|[0-9]+|[();+*<=-])").matcher(rest);
            if (!m.find()) return new Token("?", from);
            String t = m.group(1);
            boolean word = Character.isLowerCase(t.charAt(0));
            if (word && !List.of("bars", "odd", "gap", "year", "made", "sold", "doubt", "price", "open", "or", "and", "not")
                    .contains(t)) return new Token("?", from);
            if (Character.isDigit(t.charAt(0)) && t.length() > 4) return new Token("?", from);
            return new Token(t, from);
        }

        boolean see(String t) { return peek().text.equals(t); }

        void eat(String t) {
            Token p = peek();
            if (!p.text.equals(t)) throw new Fault(p.at);
            at = p.at + t.length();
        }

        Exp[] all() {
            Exp[] three = new Exp[3];
            String[] keys = {"doubt", "price", "open"};
            for (int i = 0; i < 3; i++) {
                eat(keys[i]);
                three[i] = e();
                eat(";");
            }
            if (!see("")) throw new Fault(peek().at);
            return three;
        }

        Exp e() {
            Exp a = and();
            while (see("or")) {
                eat("or");
                Exp l = a, r = and();
                a = n -> l.of(n) != 0 | r.of(n) != 0 ? 1 : 0;
            }
            return a;
        }

        Exp and() {
            Exp a = not();
            while (see("and")) {
                eat("and");
                Exp l = a, r = not();
                a = n -> l.of(n) != 0 & r.of(n) != 0 ? 1 : 0;
            }
            return a;
        }

        void enter(String t) {
            if (open == 5) throw new Fault(peek().at);
            eat(t);
            open++;
        }

        Exp not() {
            if (see("not")) {
                enter("not");
                Exp a = not();
                open--;
                return n -> a.of(n) == 0 ? 1 : 0;
            }
            Exp l = sum();
            if (see("<")) {
                eat("<");
                Exp r = sum();
                return n -> l.of(n) < r.of(n) ? 1 : 0;
            }
            if (see("=")) {
                eat("=");
                Exp r = sum();
                return n -> l.of(n) == r.of(n) ? 1 : 0;
            }
            return l;
        }

        Exp sum() {
            Exp a = term();
            while (see("+") || see("-")) {
                boolean plus = see("+");
                eat(plus ? "+" : "-");
                Exp l = a, r = term();
                a = plus ? n -> l.of(n) + r.of(n) : n -> l.of(n) - r.of(n);
            }
            return a;
        }

        Exp term() {
            Exp a = one();
            while (see("*")) {
                eat("*");
                Exp l = a, r = one();
                a = n -> l.of(n) * r.of(n);
            }
            return a;
        }

        Exp one() {
            Token p = peek();
            if (see("-")) {
                enter("-");
                Exp a = one();
                open--;
                return n -> -a.of(n);
            }
            if (see("(")) {
                enter("(");
                Exp a = e();
                eat(")");
                open--;
                return a;
            }
            if (List.of("bars", "odd", "gap", "year", "made", "sold").contains(p.text)) {
                eat(p.text);
                return n -> n.get(p.text);
            }
            if (!p.text.isEmpty() && Character.isDigit(p.text.charAt(0))) {
                eat(p.text);
                int v = Integer.parseInt(p.text);
                return n -> v;
            }
            throw new Fault(p.at);
        }
    }

    private static final long NO = -4611686018427387904L;
    private final List<Wine> wines = new ArrayList<>();
    private final List<Bottle> bottles = new ArrayList<>();
    private final List<Exp[]> texts = new ArrayList<>();
    private final List<List<Said>> tongues = new ArrayList<>();
    private List<Sale> sales = new ArrayList<>();
    private int[] drunk = new int[8];
    private int[][][] used = new int[3][4][2];
    private int[] tested = {100, 100, 100};
    private int rule;
    private String tape = "";
    private final Object[] sheets = new Object[4];
    private boolean kept;
    private int keptWines, keptRule, keptSales;
    private int[] keptDrunk, keptTested;
    private int[][][] keptUsed;

    Model() {
        for (int[][] part : used) for (int[] u : part) u[1] = 99;
        for (int i = 0; i < 6; i++) tongues.add(new ArrayList<>());
        texts.add(new Parser("doubt bars * 20 + odd * 5 + gap ; price made - sold * 2 + 100 ; open 10 + odd ;").all());
    }

    private static boolean in(int v, int a, int b) { return a <= v && v <= b; }

    private static int[] parts(int parts) {
        if (parts < 0) return null;
        int[] p = {parts / 100, parts / 10 % 10, parts % 10};
        for (int v : p) if (v > 3) return null;
        return p;
    }

    int wine(int year, int made, int parts, int taste) {
        if (!in(year, 0, 99) || !in(made, 0, 999) || parts(parts) == null || !in(taste, 0, 999999)) return -2;
        if (wines.size() == 8) return -4;
        wines.add(new Wine(year, made, parts(parts), new int[]{taste / 10000, taste / 100 % 100, taste % 100}));
        return wines.size() - 1;
    }

    private boolean isWine(int w) { return in(w, 0, wines.size() - 1); }

    private boolean isBottle(int b) { return in(b, 0, bottles.size() - 1); }

    int drunk(int wine, int v) {
        if (!isWine(wine) || !in(v, 0, 999)) return -2;
        int was = drunk[wine];
        drunk[wine] = v;
        return was;
    }

    int book(int part, int which, int from, int till) {
        if (!in(part, 0, 2) || !in(which, 0, 3) || !in(from, 0, 99) || !in(till, 0, 99) || till < from) return -2;
        used[part][which] = new int[]{from, till};
        return 1;
    }

    int test(int part, int year) {
        if (!in(part, 0, 2) || !in(year, 0, 100)) return -2;
        int was = tested[part];
        tested[part] = year;
        return was;
    }

    int bottle(int kind, int wines, int parts) {
        if (!in(kind, 0, 5) || wines < 0 || !isWine(wines / 10) || !isWine(wines % 10) || parts(parts) == null) return -2;
        if (bottles.size() == 24) return -4;
        Bottle b = switch (kind) {
            case 0 -> new Bottle();
            case 1 -> new TrueOne();
            case 2 -> new Refilled();
            case 3 -> new Moved();
            case 4 -> new Mixed();
            default -> new Never();
        };
        b.saidNumber = wines / 10;
        b.inNumber = wines % 10;
        b.said = this.wines.get(b.saidNumber);
        b.in = this.wines.get(b.inNumber);
        b.own = parts(parts);
        bottles.add(b);
        return bottles.size() - 1;
    }

    private boolean bars(Bottle b, int part) {
        int[] u = used[part][b.shows(part)];
        return !in(b.said.year, u[0], u[1]);
    }

    private boolean odd(Bottle b, int part) { return b.shows(part) != b.said.parts[part] && !bars(b, part); }

    private boolean barred(Bottle b) { return bars(b, 0) || bars(b, 1) || bars(b, 2) || b.said.made == 0; }

    private List<Sale> salesOf(int bottle) {
        List<Sale> of = new ArrayList<>();
        for (Sale s : sales) if (s.bottle == bottle) of.add(s);
        return of;
    }

    private int gap(int bottle) {
        List<Sale> of = salesOf(bottle);
        int n = 0;
        for (int i = 1; i < of.size(); i++) if (of.get(i).seller != of.get(i - 1).buyer) n++;
        return n;
    }

    private int sold(int wine) {
        int n = 0;
        for (int i = 0; i < bottles.size(); i++) if (bottles.get(i).saidNumber == wine && !salesOf(i).isEmpty()) n++;
        return n;
    }

    private int judged(int bottle, int clause) {
        Bottle b = bottles.get(bottle);
        int bars = 0, odd = 0;
        for (int part = 0; part < 3; part++) {
            if (bars(b, part)) bars++;
            if (odd(b, part)) odd++;
        }
        int v = texts.get(rule)[clause].of(Map.of("bars", bars, "odd", odd, "gap", gap(bottle), "year", b.said.year,
                "made", b.said.made, "sold", sold(b.saidNumber)));
        int low = clause == 2 ? 1 : 0, high = new int[]{99, 9999, 999}[clause];
        return v < low ? low : v > high ? high : v;
    }

    int told(int bottle, int what) {
        if (!isBottle(bottle) || !in(what, 0, 10)) return -5;
        Bottle b = bottles.get(bottle);
        List<Sale> of = salesOf(bottle);
        int bits = 0;
        switch (what) {
            case 0:
                for (int k = 0; k < 6; k++) if (b.getClass() == KINDS[k]) return k;
                return -99;
            case 1: return b.saidNumber;
            case 2:
                for (int part = 0; part < 3; part++) if (bars(b, part)) bits += 1 << part;
                return bits;
            case 3:
                for (int part = 0; part < 3; part++) if (odd(b, part)) bits += 1 << part;
                return bits;
            case 4: return barred(b) ? 1 : 0;
            case 5: return gap(bottle);
            case 6: return b.weight();
            case 7: return of.isEmpty() ? -1 : of.get(of.size() - 1).buyer;
            default: return judged(bottle, what - 8);
        }
    }

    int shows(int bottle, int which) {
        if (!isBottle(bottle) || !in(which, 0, 5)) return -2;
        return which < 3 ? bottles.get(bottle).shows(which) : bottles.get(bottle).tastes(which - 3);
    }

    int sale(int bottle, int hands, int price, int year) {
        if (!isBottle(bottle) || !in(hands, 0, 99) || hands % 11 == 0 || !in(price, 0, 9999) || !in(year, 0, 99)) return -2;
        for (Sale s : salesOf(bottle)) if (year < s.year) return -2;
        if (sales.size() == 40) return -4;
        sales.add(new Sale(bottle, hands / 10, hands % 10, price, year));
        return sales.size() - 1;
    }

    int feed(int n, long bytes) {
        if (!in(n, 1, 8)) return -2;
        if (tape.length() + n > 160) return -4;
        for (int i = 0; i < n; i++) {
            tape += (char) (bytes & 255);
            bytes >>= 8;
        }
        return tape.length();
    }

    int text() {
        if (texts.size() == 6) return -4;
        String text = tape;
        tape = "";
        try {
            texts.add(new Parser(text).all());
            return texts.size() - 1;
        } catch (Fault f) {
            return -100 - f.at;
        }
    }

    int force(int text) {
        if (!in(text, 0, texts.size() - 1)) return -2;
        int was = rule;
        rule = text;
        return was;
    }

    int left(int wine, int what) {
        if (!isWine(wine) || !in(what, 0, 2)) return -2;
        int left = Math.max(0, wines.get(wine).made - drunk[wine]);
        return what == 0 ? left : what == 1 ? Math.max(0, sold(wine) - left) : sold(wine);
    }

    long odds(int bottle, int part) {
        if (!isBottle(bottle) || !in(part, 0, 1)) return NO;
        Bottle b = bottles.get(bottle);
        if (barred(b)) return part == 0 ? 0 : 1;
        int doubt = judged(bottle, 0);
        long t = new TrueOne().weight() * (100L - doubt);
        long f = (b.isTrue() ? new Never() : b).weight() * (doubt + 1L);
        long g = java.math.BigInteger.valueOf(t).gcd(java.math.BigInteger.valueOf(t + f)).longValue();
        return (part == 0 ? t : t + f) / g;
    }

    int source(int hand, int what) {
        if (!in(hand, 0, 9) || !in(what, 0, 1)) return -2;
        int n = 0;
        for (Sale s : sales) if (s.seller == hand && (what == 0 || barred(bottles.get(s.bottle)))) n++;
        return n;
    }

    int worst() {
        int worst = -1;
        for (int h = 9; h >= 0; h--) {
            int n = source(h, 0);
            if (n == 0) continue;
            if (worst == -1) {
                worst = h;
                continue;
            }
            double share = (double) source(h, 1) / n, best = (double) source(worst, 1) / source(worst, 0);
            if (share > best || share == best && n >= source(worst, 0)) worst = h;
        }
        return worst;
    }

    int mix(int a, int b, int like, int what) {
        if (!isWine(a) || !isWine(b) || !isWine(like) || a == b || !in(what, 0, 1)) return -2;
        int k = -1, least = Integer.MAX_VALUE;
        for (int t = 10; t >= 0; t--) {
            int far = 0;
            for (int i = 0; i < 3; i++) {
                int m = (t * wines.get(a).taste[i] + (10 - t) * wines.get(b).taste[i]) / 10;
                far += Math.abs(m - wines.get(like).taste[i]);
            }
            if (far <= least) {
                least = far;
                k = t;
            }
        }
        return what == 0 ? k : least;
    }

    int said(int tongue, int bottle, int told, int wine) {
        if (!in(tongue, 0, 5) || !isBottle(bottle) || !in(told, 0, 1) || !isWine(wine)) return -2;
        List<Said> of = tongues.get(tongue);
        if (of.size() == 12) return -4;
        of.add(new Said(bottle, told == 1, wine));
        return of.size();
    }

    int tongue(int tongue, int what) {
        if (!in(tongue, 0, 5) || !in(what, 0, 3)) return -2;
        int[] n = new int[4];
        for (Said s : tongues.get(tongue)) {
            Bottle b = bottles.get(s.bottle);
            int within = b.isTrue() ? b.saidNumber : b.inNumber;
            if (!s.told) {
                n[1]++;
                if (s.wine == within) n[0]++;
            }
            if (s.told && within != b.saidNumber) {
                n[3]++;
                if (s.wine == b.saidNumber) n[2]++;
            }
        }
        return n[what];
    }

    int opened(int coin, int what) {
        if (!in(coin, 0, 999) || !in(what, 0, 2)) return -2;
        int n = Math.min(10, bottles.size());
        int[] doubt = new int[n], open = new int[n];
        for (int i = 0; i < n; i++) {
            doubt[i] = judged(i, 0);
            open[i] = judged(i, 2);
        }
        int[] best = {0, 0, 0};
        for (int bits = (1 << n) - 1; bits >= 0; bits--) {
            int d = 0, c = 0;
            for (int i = 0; i < n; i++) {
                if ((bits & 1 << i) != 0) {
                    d += doubt[i];
                    c += open[i];
                }
            }
            if (c <= coin && (d > best[1] || d == best[1] && (c < best[2] || c == best[2] && bits < best[0]))) {
                best = new int[]{bits, d, c};
            }
        }
        return best[what];
    }

    long owed(int hand) {
        if (!in(hand, 0, 9)) return NO;
        long sum = 0;
        for (Sale s : sales) {
            if (barred(bottles.get(s.bottle))) {
                if (s.buyer == hand) sum += s.price;
                if (s.seller == hand) sum -= s.price;
            }
        }
        return sum;
    }

    int chain(int bottle) {
        if (!isBottle(bottle)) return -2;
        List<Sale> of = salesOf(bottle);
        if (of.isEmpty()) return 0;
        int i = of.size() - 1;
        while (i > 0 && of.get(i).seller == of.get(i - 1).buyer) i--;
        return of.size() - i;
    }

    long falls(int bottle, int share) {
        if (!isBottle(bottle) || !in(share, 0, 100)) return NO;
        Set<Integer> hands = new HashSet<>(), all = new HashSet<>();
        for (Sale s : salesOf(bottle)) {
            hands.add(s.seller);
            hands.add(s.buyer);
        }
        for (Sale s : sales) if (hands.contains(s.seller) || hands.contains(s.buyer)) all.add(s.bottle);
        for (int i = 0; i < bottles.size(); i++) if (bottles.get(i).saidNumber == bottles.get(bottle).saidNumber) all.add(i);
        long sum = 0;
        for (int i : all) if (!barred(bottles.get(i))) sum += judged(i, 1);
        return sum * share / 100;
    }

    int saw(int sale) {
        if (!in(sale, 0, sales.size() - 1)) return -2;
        Sale s = sales.get(sale);
        for (int part = 0; part < 3; part++) if (bars(bottles.get(s.bottle), part) && tested[part] <= s.year) return 1;
        return 0;
    }

    private static int[][][] deep(int[][][] a) {
        int[][][] c = new int[3][4][];
        for (int p = 0; p < 3; p++) for (int w = 0; w < 4; w++) c[p][w] = a[p][w].clone();
        return c;
    }

    int image() {
        kept = true;
        keptWines = wines.size();
        keptDrunk = drunk.clone();
        keptTested = tested.clone();
        keptUsed = deep(used);
        keptRule = rule;
        keptSales = sales.size();
        return sales.size();
    }

    int back() {
        if (!kept) return -3;
        for (int i = 0; i < keptWines; i++) drunk[i] = keptDrunk[i];
        tested = keptTested.clone();
        used = deep(keptUsed);
        rule = keptRule;
        sales = new ArrayList<>(sales.subList(0, keptSales));
        return sales.size();
    }

    int count(int what) {
        int n = 0;
        switch (what) {
            case 0: return wines.size();
            case 1: return bottles.size();
            case 2: return sales.size();
            case 3: return texts.size();
            case 4: return tape.length();
            case 5: return rule;
            case 6:
                for (Bottle b : bottles) if (barred(b)) n++;
                return n;
            case 7:
                for (int i = 0; i < bottles.size(); i++) if (!salesOf(i).isEmpty()) n++;
                return n;
            default: return -2;
        }
    }

    int sheet(int sheet, int sort, int n) {
        if (!in(sheet, 0, 3) || !in(sort, -1, 2)) return -2;
        if (sort == -1) {
            sheets[sheet] = null;
            return 1;
        }
        if (n > 40) return -2;
        if (n < 0) return -14;
        sheets[sheet] = sort == 0 ? new byte[n] : sort == 1 ? new short[n] : new int[n];
        return 1;
    }

    int cell(int sheet, int i, int v) {
        if (!in(sheet, 0, 3)) return -2;
        try {
            Object s = sheets[sheet];
            if (s instanceof byte[] b) b[i] = (byte) v;
            else if (s instanceof short[] h) h[i] = (short) v;
            else if (s instanceof int[] n) n[i] = v;
            else return -11;
            return 1;
        } catch (ArrayIndexOutOfBoundsException e) {
            return -12;
        }
    }

    @SuppressWarnings("SuspiciousSystemArraycopy")
    int copy(int sheet, int i, int other, int j, int n) {
        if (!in(sheet, 0, 3) || !in(other, 0, 3)) return -2;
        try {
            System.arraycopy(sheets[sheet], i, sheets[other], j, n);
            return n;
        } catch (NullPointerException e) {
            return -11;
        } catch (ArrayStoreException e) {
            return -13;
        } catch (IndexOutOfBoundsException e) {
            return -12;
        }
    }

    int sales(int sheet, int sort, int from, int n) {
        if (!in(sheet, 0, 3) || !in(sort, 0, 2) || !in(n, 0, 10)) return -2;
        Object s = sheets[sheet];
        if (s == null) return -11;
        if (s.getClass() != new Class<?>[]{byte[].class, short[].class, int[].class}[sort]) return -13;
        int came = 0;
        try {
            for (int k = 0; k < n; k++) {
                int[] v = new int[4];
                for (int i = 0; i < 4; i++) v[i] = java.lang.reflect.Array.getInt(s, from + 4 * k + i);
                if (sale(v[0], v[1], v[2], v[3]) >= 0) came++;
            }
        } catch (ArrayIndexOutOfBoundsException e) {
            return -12;
        }
        return came;
    }

    int taken(int bottle, int k) {
        if (!in(k, 0, 5)) return -2;
        if (!isBottle(bottle)) return -11;
        return KINDS[k].isInstance(bottles.get(bottle)) ? bottles.get(bottle).inNumber : -13;
    }
}
