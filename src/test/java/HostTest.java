/** Promises 28 to 32: sheet, cell, copy, sales, taken. */
public final class HostTest {
    private static final int BIG = Integer.MAX_VALUE, SMALL = Integer.MIN_VALUE;
    private static final Due DUE = new Due("HostTest");

    public static void main(String[] args) {
        sheet();
        cell();
        copy();
        sales();
        fullSales();
        taken();
        DUE.end();
    }

    private static void sheet() {
        OldBottles x = new OldBottles();
        int[][] due = {{-1, 0, 0, -2}, {4, 0, 0, -2}, {0, -2, 0, -2}, {0, 3, 0, -2}, {0, 0, 41, -2}, {0, 0, BIG, -2},
            {0, 0, -1, -14}, {0, 2, SMALL, -14}, {0, 3, -1, -2}, {4, 0, -1, -2}, {4, -1, 0, -2}, {0, 0, 0, 1},
            {1, 1, 40, 1}, {2, 2, 40, 1}, {3, -1, -1, 1}, {3, -1, 41, 1}, {3, -1, SMALL, 1}};
        for (int[] d : due) {
            DUE.is("28 sheet " + d[0] + " " + d[1] + " " + d[2], x.sheet(d[0], d[1], d[2]), d[3]);
        }
        DUE.is("28 of 0 items", x.cell(0, 0, 0), -12);
        DUE.is("28 of 40 items", x.cell(1, 39, 0), 1);
        DUE.is("28 of 40 items", x.cell(1, 40, 0), -12);
        DUE.is("28 missing", x.cell(3, 0, 0), -11);
        DUE.is("28 gone", x.sheet(1, -1, 0), 1);
        DUE.is("28 gone", x.cell(1, 0, 0), -11);
        x.wine(1, 0, 0, 0);
        x.bottle(0, 0, 0);
        x.sheet(1, 2, 4);
        x.cell(1, 1, 12);
        DUE.is("28 filled", x.sales(1, 2, 0, 1), 1);
        x.sheet(1, 2, 4);
        DUE.is("28 all 0 anew: hands that are alike", x.sales(1, 2, 0, 1), 0);
        DUE.is("28 refused: as it was", x.sheet(2, 0, -1), -14);
        DUE.is("28 refused: as it was", x.sales(2, 2, 0, 0), 0);
    }

    /** Whether item 2 of sheet 0 (a row of four of that sort) is v: as a PRICE, or as none such. */
    private static int priced(int sort, int v) {
        OldBottles x = new OldBottles();
        x.wine(1, 0, 0, 0);
        x.bottle(0, 0, 0);
        x.sheet(0, sort, 4);
        x.cell(0, 1, 12);
        x.cell(0, 2, v);
        return x.sales(0, sort, 0, 1) == 1 ? (int) x.owed(2) : OldBottles.NONE;
    }

    private static void cell() {
        OldBottles x = new OldBottles();
        DUE.is("29 bad", x.cell(-1, 0, 0), OldBottles.BAD);
        DUE.is("29 bad", x.cell(4, 0, 0), OldBottles.BAD);
        DUE.is("29 missing", x.cell(0, -1, 0), -11);
        x.sheet(0, 0, 3);
        DUE.is("29 outside", x.cell(0, -1, 0), -12);
        DUE.is("29 outside", x.cell(0, 3, 0), -12);
        DUE.is("29 outside", x.cell(0, BIG, 0), -12);
        DUE.is("29 inside", x.cell(0, 2, SMALL), 1);
        int[][] due = {{0, 100, 100}, {0, 127, 127}, {0, 128, -1}, {0, 255, -1}, {0, 256, 0}, {0, 300, 44}, {0, -200, 56},
            {1, 9999, 9999}, {1, 32768, -1}, {1, 65536, 0}, {1, 65636, 100}, {1, -65000, 536}, {2, 9999, 9999},
            {2, 65636, -1}, {2, -1, -1}};
        for (int[] d : due) {
            DUE.is("29 sort " + d[0] + " of " + d[1], priced(d[0], d[1]), d[2]);
        }
    }

    private static void copy() {
        OldBottles x = new OldBottles();
        x.sheet(0, 1, 8);
        x.sheet(1, 1, 4);
        x.sheet(2, 2, 4);
        int[][] due = {{-1, 0, 0, 0, 0, -2}, {0, 0, -1, 0, 0, -2}, {4, 0, 0, 0, 0, -2}, {0, 0, 4, 0, 0, -2},
            {3, 0, 4, 0, 0, -2}, {3, 0, 0, 0, 0, -11}, {0, 0, 3, 0, 0, -11}, {3, 0, 3, -1, -1, -11}, {0, 0, 2, 0, 0, -13},
            {0, -1, 2, 0, -1, -13}, {0, -1, 1, 0, 1, -12}, {0, 0, 1, -1, 1, -12}, {0, 0, 1, 0, -1, -12},
            {0, 0, 1, 0, 5, -12}, {0, 5, 1, 0, 4, -12}, {0, 0, 1, 1, 4, -12}, {0, 4, 1, 0, 4, 4}, {0, 8, 1, 4, 0, 0},
            {0, 9, 1, 0, 0, -12}, {0, 0, 1, 5, 0, -12}, {0, BIG, 1, 0, BIG, -12}, {0, 1, 1, 1, BIG, -12},
            {0, 1, 0, BIG, 1, -12}, {0, SMALL, 1, SMALL, SMALL, -12}, {1, 0, 0, 0, 4, 4}, {2, 0, 2, 0, 4, 4}};
        for (int[] d : due) {
            DUE.is("30 copy " + d[0] + " " + d[1] + " " + d[2] + " " + d[3] + " " + d[4],
                    x.copy(d[0], d[1], d[2], d[3], d[4]), d[5]);
        }
        overlap(0, 1);
        overlap(1, 0);
    }

    /** Four items are copied one place on or back in the same SHEET; the row read then is 0 12 p 5 or what moved. */
    private static void overlap(int i, int j) {
        OldBottles x = new OldBottles();
        x.wine(1, 0, 0, 0);
        x.bottle(0, 0, 0);
        x.sheet(0, 2, 5);
        int[] four = {0, 12, 77, 5};
        for (int k = 0; k < 4; k++) {
            x.cell(0, i + k, four[k]);
        }
        DUE.is("30 as they were", x.copy(0, i, 0, j, 4), 4);
        DUE.is("30 as they were", x.sales(0, 2, j, 1), 1);
        DUE.is("30 as they were", x.owed(2), 77);
        DUE.is("30 as they were", x.sale(0, 12, 0, 4), OldBottles.BAD);
    }

    private static void sales() {
        OldBottles x = new OldBottles();
        x.wine(1, 1, 0, 0);
        x.bottle(0, 0, 0);
        x.sheet(0, 2, 11);
        int[] items = {9, 0, 12, 5, 7, 0, 23, 6, 8, 0, 34};
        for (int i = 0; i < items.length; i++) {
            x.cell(0, i, items[i]);
        }
        int[][] due = {{-1, 2, 0, 0, -2}, {4, 2, 0, 0, -2}, {0, -1, 0, 0, -2}, {0, 3, 0, 0, -2}, {0, 2, 0, -1, -2},
            {0, 2, 0, 11, -2}, {1, 3, 0, 0, -2}, {1, 2, 0, 11, -2}, {1, 0, 0, 0, -11}, {1, 2, -1, 10, -11},
            {0, 1, 0, 0, -13}, {0, 0, -1, 1, -13}, {0, 2, -1, 1, -12}, {0, 2, 8, 1, -12}, {0, 2, BIG, 10, -12},
            {0, 2, SMALL, 10, -12}, {0, 2, 0, 0, 0}};
        for (int[] d : due) {
            DUE.is("31 sales " + d[0] + " " + d[1] + " " + d[2] + " " + d[3], x.sales(d[0], d[1], d[2], d[3]), d[4]);
        }
        DUE.is("31 nothing came", x.count(2), 0);
        DUE.is("31 from item 0: all bad", x.sales(0, 2, 0, 2), 0);
        DUE.is("31 what stood ahead came", x.sales(0, 2, 1, 3), -12);
        DUE.is("31 two came", x.count(2), 2);
        DUE.is("31 owner", x.told(0, 7), 3);
        DUE.is("31 the first is ahead now", x.sales(0, 2, 1, 2), 1);
        DUE.is("31 three", x.count(2), 3);
    }

    private static void fullSales() {
        OldBottles x = new OldBottles();
        x.wine(1, 1, 0, 0);
        x.bottle(0, 0, 0);
        x.sheet(3, 0, 40);
        for (int k = 0; k < 10; k++) {
            x.cell(3, 4 * k + 1, k % 2 == 0 ? 12 : 21);
        }
        DUE.is("31 ten", x.sales(3, 0, 0, 10), 10);
        DUE.is("31 ten", x.sales(3, 0, 0, 10), 10);
        DUE.is("31 ten", x.sales(3, 0, 0, 10), 10);
        DUE.is("31 six", x.sales(3, 0, 0, 6), 6);
        DUE.is("31 full ones are left out", x.sales(3, 0, 0, 10), 4);
        DUE.is("31 forty", x.count(2), 40);
        DUE.is("31 none", x.sales(3, 0, 0, 10), 0);
        DUE.is("31 outside all the same", x.sales(3, 0, 4, 10), -12);
    }

    private static void taken() {
        OldBottles x = new OldBottles();
        x.wine(1, 1, 0, 0);
        x.wine(1, 1, 0, 0);
        for (int kind = 0; kind < 6; kind++) {
            x.bottle(kind, 1, 0);
        }
        int[] above = {1, 3, 5, 11, 21, 33};
        for (int kind = 0; kind < 6; kind++) {
            for (int k = 0; k < 6; k++) {
                DUE.is("32 kind " + kind + " for " + k, x.taken(kind, k), (above[kind] >> k & 1) == 1 ? 1 : -13);
            }
        }
        DUE.is("32 bad", x.taken(0, -1), OldBottles.BAD);
        DUE.is("32 bad", x.taken(0, 6), OldBottles.BAD);
        DUE.is("32 bad ahead", x.taken(6, 6), OldBottles.BAD);
        DUE.is("32 no bottle", x.taken(6, 0), -11);
        DUE.is("32 no bottle", x.taken(-1, 5), -11);
        DUE.is("32 no bottle", x.taken(BIG, 5), -11);
    }
}
