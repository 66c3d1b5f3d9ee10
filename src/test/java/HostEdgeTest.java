/** The boundaries that the document names of promises 28 to 32, a test for each sentence. */
public final class HostEdgeTest {
    private static final int BAD = OldBottles.BAD, FULL = OldBottles.FULL;
    private static final int MISSING = -11, OUTSIDE = -12, OTHER_SORT = -13, BELOW_ZERO = -14, ITEMS = 40;
    private static final int GREATEST = Integer.MAX_VALUE, LEAST = Integer.MIN_VALUE;
    private static final Sentences S = new Sentences("HostEdgeTest");

    public static void main(String[] args) {
        sheets();
        sheet();
        sheetSizes();
        cell();
        cellBits();
        copy();
        copyPlaces();
        copyAsTheyWere();
        sales();
        salesPlaces();
        salesLeftOut();
        taken();
        S.end();
    }

    private static void due(long got, long want) {
        S.due(got, want);
    }

    /** A WINE of which none was MADE, so that all is owed back, and a BOTTLE. */
    private static void barred(OldBottles x) {
        x.wine(1, 0, 0, 0);
        x.bottle(0, 0, 0);
    }

    private static void fill(OldBottles x, int sheet, int from, int... items) {
        for (int k = 0; k < items.length; k++) {
            due(x.cell(sheet, from + k, items[k]), 1);
        }
    }

    private static void sheets() {
        S.hold("SHEETS 0 .. 3 are rows of numbers, or missing (as all are at first)", x -> {
            for (int sheet = 0; sheet < 4; sheet++) {
                due(x.cell(sheet, 0, 0), MISSING);
                due(x.copy(sheet, 0, sheet, 0, 0), MISSING);
                due(x.sales(sheet, 0, 0, 0), MISSING);
            }
        });
        S.hold("SHEETS 0 .. 3 are rows of numbers", x -> {
            // each is a row of its own
            barred(x);
            for (int sheet = 0; sheet < 4; sheet++) {
                due(x.sheet(sheet, 2, 4), 1);
                fill(x, sheet, 0, 0, 12, 1000 * sheet, 1);
            }
            for (int sheet = 0; sheet < 4; sheet++) {
                due(x.sales(sheet, 2, 0, 1), 1);
            }
            due(x.owed(2), 6000);
            due(x.sheet(2, -1, 0), 1);
            due(x.cell(2, 0, 0), MISSING);
            due(x.cell(1, 3, 0), 1);
            due(x.cell(3, 3, 0), 1);
        });
    }

    private static void sheet() {
        S.hold("BAD: no such SHEET, sort; n above 40; -14.", x -> {
            S.refused(BAD, Sentences.beyond(0, 3), v -> x.sheet(v, 0, 4));
            S.refused(BAD, Sentences.beyond(0, 3), v -> x.sheet(v, -1, 4));
            S.refused(BAD, Sentences.beyond(-1, 2), v -> x.sheet(0, v, 4));
            for (int s = 0; s < 3; s++) {
                int sort = s;
                S.refused(BAD, new int[] {41, 42, 256, 65536, GREATEST - 1, GREATEST}, v -> x.sheet(0, sort, v));
                S.refused(BELOW_ZERO, new int[] {-1, -2, -40, -256, -65536, LEAST, LEAST + 1}, v -> x.sheet(0, sort, v));
            }
            due(x.cell(0, 0, 0), MISSING);
        });
        S.hold("BAD: no such SHEET, sort; n above 40; -14.", x -> {
            due(x.sheet(4, 0, -1), BAD);
            due(x.sheet(-1, 2, LEAST), BAD);
            due(x.sheet(0, 3, -1), BAD);
            due(x.sheet(0, -2, -1), BAD);
            due(x.sheet(4, -1, -1), BAD);
            due(x.sheet(0, 3, 41), BAD);
        });
        S.hold("or missing (sort -1: n does not matter)", x -> {
            for (int n : new int[] {0, 1, 40, 41, GREATEST, -1, -14, LEAST}) {
                due(x.sheet(3, 1, 5), 1);
                due(x.cell(3, 4, 1), 1);
                due(x.sheet(3, -1, n), 1);
                due(x.cell(3, 0, 1), MISSING);
                due(x.sheet(3, -1, n), 1);
                due(x.cell(3, -1, 1), MISSING);
            }
        });
        S.hold("they change nothing: BAD", x -> {
            // what stood in a SHEET stands after it was refused
            barred(x);
            x.sheet(1, 2, 4);
            fill(x, 1, 0, 0, 12, 345, 1);
            due(x.sheet(1, 3, 4), BAD);
            due(x.sheet(1, 0, 41), BAD);
            due(x.sheet(1, 0, -1), BELOW_ZERO);
            due(x.sheet(1, -2, 4), BAD);
            due(x.cell(1, 4, 9), OUTSIDE);
            due(x.cell(1, -1, 9), OUTSIDE);
            due(x.sales(1, 2, 0, 1), 1);
            due(x.owed(2), 345);
        });
    }

    private static void sheetSizes() {
        S.hold("A SHEET becomes a row of n of a sort, all 0", x -> {
            for (int sort = 0; sort < 3; sort++) {
                for (int n : new int[] {0, 1, 39, 40}) {
                    due(x.sheet(2, sort, n), 1);
                    due(x.cell(2, n, 7), OUTSIDE);
                    due(x.cell(2, n - 1, 7), n == 0 ? OUTSIDE : 1);
                    due(x.cell(2, 0, 7), n == 0 ? OUTSIDE : 1);
                    due(x.copy(2, 0, 2, 0, n), n);
                    due(x.copy(2, 0, 2, 0, n + 1), OUTSIDE);
                }
            }
        });
        S.hold("A SHEET becomes a row of n of a sort, all 0", x -> {
            // of the BOTTLE 0 from hand 0 to hand 1, if but one item is not 0
            barred(x);
            for (int sort = 0; sort < 3; sort++) {
                due(x.sheet(0, sort, ITEMS), 1);
                for (int i = 0; i < ITEMS; i++) {
                    x.cell(0, i, 99);
                }
                due(x.sheet(0, sort, ITEMS), 1);
                due(x.sales(0, sort, 0, 10), 0);
                for (int i = 1; i < ITEMS; i += 4) {
                    x.cell(0, i, 1);
                }
                due(x.sales(0, sort, 0, 10), 10);
            }
            due(x.count(2), 30);
            due(x.owed(1), 0);
        });
        S.hold("A SHEET becomes a row of n of a sort, all 0", x -> {
            // what lay behind a shorter row is 0 in a longer one that comes after
            barred(x);
            x.sheet(0, 2, 8);
            fill(x, 0, 4, 0, 12, 77, 1);
            x.sheet(0, 2, 2);
            x.sheet(0, 2, 8);
            due(x.sales(0, 2, 4, 1), 0);
            fill(x, 0, 4, 0, 12, 77, 1);
            x.sheet(0, -1, 8);
            x.sheet(0, 2, 8);
            due(x.sales(0, 2, 4, 1), 0);
        });
    }

    private static void cell() {
        S.hold("(of bytes, shorts its lowest 8, 16 bits): 1. BAD: no such SHEET; -11; -12.", x -> {
            S.refused(BAD, Sentences.beyond(0, 3), v -> x.cell(v, 0, 0));
            S.refused(BAD, Sentences.beyond(0, 3), v -> x.cell(v, -1, 0));
            due(x.cell(0, 0, 0), MISSING);
            due(x.cell(0, -1, 0), MISSING);
            due(x.cell(0, 40, 0), MISSING);
            x.sheet(0, 1, 5);
            S.refused(OUTSIDE, Sentences.beyond(0, 4), v -> x.cell(0, v, 0));
            for (int i = 0; i < 5; i++) {
                due(x.cell(0, i, LEAST), 1);
            }
            due(x.cell(1, 5, 0), MISSING);
        });
        S.hold("Item i of a SHEET becomes v", x -> {
            barred(x);
            x.sheet(0, 2, ITEMS);
            fill(x, 0, 36, 0, 12, 9999, 99);
            fill(x, 0, 0, 0, 12, 1, 0);
            due(x.sales(0, 2, 0, 1), 1);
            due(x.owed(2), 1);
            due(x.sales(0, 2, 36, 1), 1);
            due(x.owed(2), 10000);
            due(x.sale(0, 12, 1, 98), BAD);
        });
    }

    /** The PRICE that v is as an item of a SHEET of a sort, or NONE where it is no PRICE. */
    private static int priceOf(int sort, int v) {
        OldBottles x = new OldBottles();
        barred(x);
        x.sheet(0, sort, 4);
        fill(x, 0, 0, 0, 12, v, 0);
        int came = x.sales(0, sort, 0, 1);
        due(came == 0 || came == 1 ? 1 : came, 1);
        return came == 1 ? (int) x.owed(2) : OldBottles.NONE;
    }

    private static void cellBits() {
        S.hold("(of bytes, shorts its lowest 8, 16 bits)", x -> {
            int[][] bytes = {{0, 0}, {1, 1}, {127, 127}, {256, 0}, {257, 1}, {383, 127}, {65536, 0}, {65537, 1}, {-256, 0},
                {-255, 1}, {-129, 127}, {LEAST, 0}, {LEAST + 5, 5}, {0x7fffff05, 5}, {0x1234567f, 127}};
            for (int[] b : bytes) {
                due(priceOf(0, b[0]), b[1]);
            }
            int[][] shorts = {{0, 0}, {255, 255}, {256, 256}, {9999, 9999}, {10000, -1}, {65536, 0}, {65537, 1},
                {65536 + 9999, 9999}, {-65536, 0}, {-65535, 1}, {-55537, 9999}, {LEAST, 0}, {LEAST + 300, 300},
                {0x7fff0105, 261}};
            for (int[] s : shorts) {
                due(priceOf(1, s[0]), s[1]);
            }
            int[][] ints = {{0, 0}, {9999, 9999}, {10000, -1}, {65536, -1}, {65537, -1}, {-65536, -1}, {-1, -1},
                {LEAST, -1}, {LEAST + 5, -1}, {GREATEST, -1}};
            for (int[] n : ints) {
                due(priceOf(2, n[0]), n[1]);
            }
        });
        S.hold("of sort 0 bytes, 1 shorts, 2 ints", x -> {
            // read with a sign, as Java's are
            int[] below = {128, 129, 200, 255, -1, -128, 384, 511};
            for (int v : below) {
                due(priceOf(0, v), -1);
            }
            int[] shortsBelow = {32768, 40000, 65535, -1, -32768, 98304};
            for (int v : shortsBelow) {
                due(priceOf(1, v), -1);
            }
            due(priceOf(1, 128), 128);
            due(priceOf(1, 200), 200);
        });
    }

    private static void copy() {
        S.hold("n. BAD: no such SHEET; -11; -13: they are of unlike sorts; -12 (also with n below 0).", x -> {
            x.sheet(0, 0, 4);
            x.sheet(1, 1, 4);
            x.sheet(2, 2, 4);
            S.refused(BAD, Sentences.beyond(0, 3), v -> x.copy(v, 0, 0, 0, 1));
            S.refused(BAD, Sentences.beyond(0, 3), v -> x.copy(0, 0, v, 0, 1));
            // no such SHEET ahead of a missing one, that ahead of unlike sorts, these ahead of places
            due(x.copy(3, -1, 4, -1, -1), BAD);
            due(x.copy(4, -1, 3, -1, -1), BAD);
            due(x.copy(3, 0, 0, 0, 0), MISSING);
            due(x.copy(0, 0, 3, 0, 0), MISSING);
            due(x.copy(3, 0, 3, 0, 0), MISSING);
            due(x.copy(3, -1, 0, 0, -1), MISSING);
            due(x.copy(0, 9, 3, 9, 9), MISSING);
            for (int a = 0; a < 3; a++) {
                for (int b = 0; b < 3; b++) {
                    due(x.copy(a, 0, b, 0, 4), a == b ? 4 : OTHER_SORT);
                    due(x.copy(a, 0, b, 0, 0), a == b ? 0 : OTHER_SORT);
                    due(x.copy(a, -1, b, 0, 1), a == b ? OUTSIDE : OTHER_SORT);
                    due(x.copy(a, 0, b, 0, -1), a == b ? OUTSIDE : OTHER_SORT);
                }
            }
        });
        S.hold("-13: they are of unlike sorts", x -> {
            // the sort that a SHEET has now, not the one that it had
            x.sheet(0, 0, 4);
            x.sheet(1, 1, 4);
            due(x.copy(0, 0, 1, 0, 1), OTHER_SORT);
            x.sheet(1, 0, 4);
            due(x.copy(0, 0, 1, 0, 1), 1);
            x.sheet(0, 2, 4);
            due(x.copy(0, 0, 1, 0, 1), OTHER_SORT);
        });
    }

    private static void copyPlaces() {
        S.hold("-12 (also with n below 0)", x -> {
            x.sheet(0, 2, 8);
            x.sheet(1, 2, 4);
            int[][] good = {{0, 0, 4}, {4, 0, 4}, {8, 0, 0}, {0, 4, 0}, {8, 4, 0}, {7, 3, 1}, {7, 0, 1}, {0, 3, 1}, {5, 1, 3}};
            for (int[] g : good) {
                due(x.copy(0, g[0], 1, g[1], g[2]), g[2]);
            }
            int[][] outside = {{0, 0, 5}, {5, 0, 4}, {0, 1, 4}, {8, 0, 1}, {0, 4, 1}, {9, 0, 0}, {0, 5, 0}, {-1, 0, 0},
                {0, -1, 0}, {-1, 0, 1}, {0, -1, 1}, {-1, 0, 2}, {0, 0, -1}, {1, 1, -1}, {4, 4, -4}, {8, 4, -1}, {0, 0, LEAST},
                {8, 4, LEAST}, {GREATEST, 0, 1}, {0, GREATEST, 1}, {GREATEST, GREATEST, GREATEST}, {1, 0, GREATEST},
                {1, 1, GREATEST}, {GREATEST, 0, 0}, {0, GREATEST, 0}, {GREATEST - 3, 0, 4}, {0, GREATEST - 3, 4},
                {LEAST, 0, 1}, {0, LEAST, 1}, {LEAST, LEAST, LEAST}, {-4, 0, 4}, {0, -4, 4}, {40, 0, 1}, {65536, 0, 1},
                {256, 0, 1}, {0, 65536, 1}};
            for (int[] o : outside) {
                due(x.copy(0, o[0], 1, o[1], o[2]), OUTSIDE);
            }
            x.sheet(2, 2, 0);
            due(x.copy(2, 0, 0, 8, 0), 0);
            due(x.copy(0, 8, 2, 0, 0), 0);
            due(x.copy(2, 0, 2, 0, 0), 0);
            due(x.copy(0, 0, 2, 0, 1), OUTSIDE);
            due(x.copy(2, 0, 0, 0, 1), OUTSIDE);
        });
        S.hold("they change nothing: BAD", x -> {
            // nothing comes of a copy that ends outside
            barred(x);
            x.sheet(0, 2, 8);
            x.sheet(1, 2, 4);
            fill(x, 0, 4, 0, 12, 55, 1);
            due(x.copy(0, 4, 1, 0, 5), OUTSIDE);
            due(x.copy(0, 4, 1, 1, 4), OUTSIDE);
            due(x.copy(0, 5, 1, 0, 4), OUTSIDE);
            due(x.sales(1, 2, 0, 1), 0);
            due(x.copy(0, 4, 1, 0, 4), 4);
            due(x.sales(1, 2, 0, 1), 1);
            due(x.owed(2), 55);
        });
    }

    private static void copyAsTheyWere() {
        S.hold("come to another one's item j on (as they were): n.", x -> {
            // on and back in the same SHEET, over one another
            barred(x);
            for (int by = 1; by <= 3; by++) {
                x.sheet(0, 2, 12);
                fill(x, 0, 0, 0, 12, 100 * by, 9);
                due(x.copy(0, 0, 0, by, 4), 4);
                due(x.sales(0, 2, by, 1), 1);
                x.sheet(0, 2, 12);
                fill(x, 0, by, 0, 12, 7 * by, 9);
                due(x.copy(0, by, 0, 0, 4), 4);
                due(x.sales(0, 2, 0, 1), 1);
            }
            due(x.count(2), 6);
            due(x.owed(2), 642);
            due(x.sale(0, 12, 1, 8), BAD);
        });
        S.hold("n numbers of a SHEET, from item i on, come to another one's item j on", x -> {
            // what stands ahead of them, behind them, and where they came from stays
            barred(x);
            for (int sort = 0; sort < 3; sort++) {
                x.sheet(0, sort, 8);
                x.sheet(1, sort, 8);
                fill(x, 0, 0, 0, 12, 20, 1, 0, 12, 30, 1);
                fill(x, 1, 0, 0, 12, 1, 1, 0, 12, 2, 1);
                due(x.copy(0, 2, 1, 6, 1), 1);
                due(x.sales(1, sort, 0, 2), 2);
                due(x.sales(0, sort, 0, 2), 2);
                due(x.owed(2), (1 + 20 + 20 + 30) * (sort + 1));
            }
        });
        S.hold("(as they were)", x -> {
            // what comes later to the one does not come to the other
            barred(x);
            x.sheet(0, 2, 4);
            x.sheet(1, 2, 4);
            fill(x, 0, 0, 0, 12, 6, 1);
            due(x.copy(0, 0, 1, 0, 4), 4);
            fill(x, 0, 0, 0, 12, 600, 1);
            due(x.sales(1, 2, 0, 1), 1);
            due(x.owed(2), 6);
            due(x.copy(0, 0, 0, 0, 4), 4);
            due(x.sales(0, 2, 0, 1), 1);
            due(x.owed(2), 606);
        });
    }

    private static void sales() {
        S.hold("how many came (others are left out). BAD: no such SHEET, sort, n; -13; -11; -12: what stood ahead came.", x -> {
            barred(x);
            x.sheet(0, 0, 4);
            x.sheet(1, 1, 4);
            x.sheet(2, 2, 4);
            for (int sheet = 0; sheet < 3; sheet++) {
                fill(x, sheet, 0, 0, 12, 1, 1);
            }
            S.refused(BAD, Sentences.beyond(0, 3), v -> x.sales(v, 0, 0, 1));
            S.refused(BAD, Sentences.beyond(0, 2), v -> x.sales(0, v, 0, 1));
            S.refused(BAD, Sentences.beyond(0, 2), v -> x.sales(3, v, 0, 1));
            S.refused(BAD, Sentences.beyond(0, 10), v -> x.sales(0, 0, 0, v));
            S.refused(BAD, Sentences.beyond(0, 10), v -> x.sales(0, 1, 0, v));
            S.refused(BAD, Sentences.beyond(0, 10), v -> x.sales(3, 0, -1, v));
            due(x.count(2), 0);
        });
        S.hold("BAD: no such SHEET, sort, n; -13; -11; -12", x -> {
            barred(x);
            x.sheet(0, 0, 4);
            x.sheet(1, 1, 4);
            x.sheet(2, 2, 4);
            for (int sheet = 0; sheet < 4; sheet++) {
                fill(x, Math.min(2, sheet), 0, 0, 12, 1, 1);
                for (int sort = 0; sort < 3; sort++) {
                    int refusal = sheet == 3 ? MISSING : OTHER_SORT;
                    due(x.sales(sheet, sort, 0, 1), sheet == sort ? 1 : refusal);
                    due(x.sales(sheet, sort, 0, 0), sheet == sort ? 0 : refusal);
                    due(x.sales(sheet, sort, -1, 1), sheet == sort ? OUTSIDE : refusal);
                    due(x.sales(sheet, sort, 0, 2), sheet == sort ? OUTSIDE : refusal);
                }
            }
            due(x.count(2), 6);
        });
        S.hold("n of them (0 .. 10)", x -> {
            barred(x);
            x.sheet(0, 2, ITEMS);
            for (int k = 0; k < 10; k++) {
                fill(x, 0, 4 * k, 0, 12, 1, 1);
            }
            due(x.sales(0, 2, 0, 0), 0);
            due(x.count(2), 0);
            due(x.sales(0, 2, 0, 1), 1);
            due(x.sales(0, 2, 0, 10), 10);
            due(x.count(2), 11);
            due(x.sales(0, 2, 0, 11), BAD);
            due(x.sales(0, 2, 0, -1), BAD);
            due(x.count(2), 11);
        });
    }

    private static void salesPlaces() {
        S.hold("-12: what stood ahead came", x -> {
            barred(x);
            x.sheet(0, 2, 11);
            fill(x, 0, 0, 0, 12, 1, 1, 0, 23, 10, 1, 0, 34, 100);
            S.refused(OUTSIDE, Sentences.beyond(0, 7), v -> x.sales(0, 2, v, 1));
            S.refused(OUTSIDE, new int[] {-1, -2, -3, -4, -5, -8, -40, 8, 9, 10, 11, 12, 40, GREATEST - 39, LEAST + 40},
                    v -> x.sales(0, 2, v, 10));
            due(x.count(2), 0);
            due(x.sales(0, 2, 0, 3), OUTSIDE);
            due(x.count(2), 2);
            due(x.owed(3), 10);
            due(x.owed(4), 0);
            due(x.sales(0, 2, 4, 2), OUTSIDE);
            due(x.count(2), 3);
            due(x.sales(0, 2, 7, 1), 0);
            due(x.sales(0, 2, 7, 2), OUTSIDE);
            due(x.count(2), 3);
        });
        S.hold("-12: what stood ahead came", x -> {
            // rows that are shorter than one SALE
            barred(x);
            for (int n = 0; n < 4; n++) {
                x.sheet(0, 1, n);
                due(x.sales(0, 1, 0, 1), OUTSIDE);
                due(x.sales(0, 1, 0, 0), 0);
            }
            x.sheet(0, 1, 4);
            fill(x, 0, 0, 0, 12, 1, 1);
            due(x.sales(0, 1, 0, 2), OUTSIDE);
            due(x.count(2), 1);
        });
        S.hold("from one on, four by four (as of sale())", x -> {
            barred(x);
            x.bottle(0, 0, 0);
            x.sheet(1, 1, ITEMS);
            fill(x, 1, 31, 1, 98, 9999, 99, 0, 1, 2, 3);
            due(x.sales(1, 1, 31, 2), 2);
            due(x.told(1, 7), 8);
            due(x.owed(8), 9999);
            due(x.sale(1, 89, 1, 98), BAD);
            due(x.told(0, 7), 1);
            due(x.owed(1), 2);
            due(x.sale(0, 10, 1, 2), BAD);
            due(x.sale(0, 10, 1, 3), 2);
        });
    }

    private static void salesLeftOut() {
        S.hold("how many came (others are left out)", x -> {
            // each of these would be BAD; the good ones between come
            barred(x);
            x.sheet(0, 2, ITEMS);
            fill(x, 0, 0, 0, 12, 1, 50, 1, 12, 1, 50, -1, 12, 1, 50, 0, 11, 1, 50, 0, 100, 1, 50);
            fill(x, 0, 20, 0, 12, 10000, 50, 0, 12, -1, 50, 0, 12, 1, 100, 0, 12, 1, 49, 0, 12, 1, 50);
            due(x.sales(0, 2, 0, 10), 2);
            due(x.count(2), 2);
            due(x.owed(2), 2);
            due(x.sales(0, 2, 4, 8), 0);
        });
        S.hold("how many came (others are left out)", x -> {
            // at 40 SALES what finds no room is left out
            barred(x);
            x.sheet(0, 0, ITEMS);
            for (int k = 0; k < 10; k++) {
                fill(x, 0, 4 * k, 0, 12, 1, 1);
            }
            for (int i = 0; i < 3; i++) {
                due(x.sales(0, 0, 0, 10), 10);
            }
            due(x.sales(0, 0, 0, 7), 7);
            due(x.sales(0, 0, 0, 10), 3);
            due(x.count(2), 40);
            due(x.sales(0, 0, 0, 10), 0);
            due(x.sales(0, 0, 4, 10), OUTSIDE);
            due(x.sale(0, 12, 1, 1), FULL);
            due(x.count(2), 40);
        });
        S.hold("how many came (others are left out)", x -> {
            // no BOTTLES at all
            x.sheet(0, 0, ITEMS);
            for (int k = 0; k < 10; k++) {
                x.cell(0, 4 * k + 1, 12);
            }
            due(x.sales(0, 0, 0, 10), 0);
            due(x.count(2), 0);
        });
    }

    private static void taken() {
        S.hold("BAD: k; -11: no such BOTTLE; -13.", x -> {
            S.refused(BAD, Sentences.beyond(0, 5), v -> x.taken(0, v));
            due(x.taken(0, 0), MISSING);
            due(x.taken(-1, -1), BAD);
            due(x.taken(GREATEST, 6), BAD);
            x.wine(1, 1, 0, 0);
            x.bottle(0, 0, 0);
            S.refused(BAD, Sentences.beyond(0, 5), v -> x.taken(0, v));
            for (int kind = 0; kind < 6; kind++) {
                int k = kind;
                S.refused(MISSING, Sentences.beyond(0, 0), v -> x.taken(v, k));
                due(x.taken(0, k), k == 0 ? 0 : OTHER_SORT);
            }
        });
        S.hold("A BOTTLE taken for one of KIND k (0 .. 5), or one under that one (also by others between):"
                + " the WINE that is in it.", x -> {
            for (int i = 0; i < 8; i++) {
                x.wine(1, 1, 0, 0);
            }
            int[] under = {-1, 0, 0, 1, 2, 0};
            for (int kind = 0; kind < 6; kind++) {
                x.bottle(kind, 10 * kind + 7 - kind, 0);
                for (int k = 0; k < 6; k++) {
                    boolean is = k == kind || k == under[kind] || k == 0;
                    due(x.taken(kind, k), is ? 7 - kind : OTHER_SORT);
                }
            }
        });
        S.hold("3 MOVED under TRUE, 4 MIXED under REFILLED, 5 NEVER under BOTTLE", x -> {
            x.wine(1, 1, 0, 0);
            for (int kind = 0; kind < 6; kind++) {
                x.bottle(kind, 0, 0);
            }
            due(x.taken(3, 1), 0);
            due(x.taken(3, 2), OTHER_SORT);
            due(x.taken(1, 3), OTHER_SORT);
            due(x.taken(4, 2), 0);
            due(x.taken(4, 1), OTHER_SORT);
            due(x.taken(2, 4), OTHER_SORT);
            due(x.taken(5, 0), 0);
            due(x.taken(5, 1), OTHER_SORT);
            due(x.taken(5, 2), OTHER_SORT);
            due(x.taken(0, 5), OTHER_SORT);
        });
    }
}
