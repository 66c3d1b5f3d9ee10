/** Promises 1 to 8: a new object, wine, drunk, book, test, bottle, told, shows. */
public final class WinesTest {
    private static final int BIG = Integer.MAX_VALUE, SMALL = Integer.MIN_VALUE;
    private static final Due DUE = new Due("WinesTest");

    public static void main(String[] args) {
        newObject();
        wine();
        drunk();
        book();
        test();
        bottle();
        told();
        shows();
        DUE.end();
    }

    private static void newObject() {
        OldBottles x = new OldBottles();
        int[] counts = {0, 0, 0, 1, 0, 0, 0, 0};
        for (int what = 0; what < counts.length; what++) {
            DUE.is("1 count " + what, x.count(what), counts[what]);
        }
        DUE.is("1 no image", x.back(), OldBottles.STATE);
        DUE.is("1 no worst", x.worst(), OldBottles.NONE);
        for (int sheet = 0; sheet < 4; sheet++) {
            DUE.is("1 missing sheet", x.cell(sheet, 0, 0), -11);
        }
    }

    private static void wine() {
        OldBottles x = new OldBottles();
        int[][] bad = {
            {-1, 0, 0, 0}, {100, 0, 0, 0}, {SMALL, 0, 0, 0}, {BIG, 0, 0, 0},
            {0, -1, 0, 0}, {0, 1000, 0, 0}, {0, BIG, 0, 0},
            {0, 0, -1, 0}, {0, 0, 4, 0}, {0, 0, 40, 0}, {0, 0, 400, 0}, {0, 0, 334, 0}, {0, 0, 1000, 0},
            {0, 0, 343, 0}, {0, 0, 9, 0}, {0, 0, SMALL, 0}, {0, 0, 0, -1}, {0, 0, 0, 1000000}, {0, 0, 0, BIG}};
        for (int[] b : bad) {
            DUE.is("2 bad wine", x.wine(b[0], b[1], b[2], b[3]), OldBottles.BAD);
        }
        DUE.is("2 nothing came", x.count(0), 0);
        DUE.is("2 edges", x.wine(0, 0, 0, 0), 0);
        DUE.is("2 edges", x.wine(99, 999, 333, 999999), 1);
        for (int i = 2; i < 8; i++) {
            DUE.is("2 number", x.wine(5, 5, 123, 10203), i);
        }
        DUE.is("2 full", x.wine(5, 5, 123, 10203), OldBottles.FULL);
        DUE.is("2 bad ahead of full", x.wine(100, 5, 123, 10203), OldBottles.BAD);
        DUE.is("2 count", x.count(0), 8);
        x.bottle(1, 77, 0);
        DUE.is("2 glass", x.shows(0, 0), 1);
        DUE.is("2 paper", x.shows(0, 1), 2);
        DUE.is("2 cork", x.shows(0, 2), 3);
        DUE.is("2 first taste", x.shows(0, 3), 1);
        DUE.is("2 second taste", x.shows(0, 4), 2);
        DUE.is("2 third taste", x.shows(0, 5), 3);
    }

    private static void drunk() {
        OldBottles x = new OldBottles();
        DUE.is("3 no wine", x.drunk(0, 0), OldBottles.BAD);
        x.wine(10, 20, 0, 0);
        DUE.is("3 was 0", x.drunk(0, 7), 0);
        DUE.is("3 above", x.drunk(0, 1000), OldBottles.BAD);
        DUE.is("3 below", x.drunk(0, -1), OldBottles.BAD);
        DUE.is("3 wine 1", x.drunk(1, 1), OldBottles.BAD);
        DUE.is("3 wine -1", x.drunk(-1, 1), OldBottles.BAD);
        DUE.is("3 was 7", x.drunk(0, 999), 7);
        DUE.is("3 was 999", x.drunk(0, 0), 999);
    }

    private static void book() {
        OldBottles x = new OldBottles();
        int[][] bad = {{-1, 0, 0, 0}, {3, 0, 0, 0}, {0, -1, 0, 0}, {0, 4, 0, 0}, {0, 0, -1, 5}, {0, 0, 5, 100},
            {0, 0, 6, 5}, {0, 0, 100, 100}, {BIG, BIG, 0, 0}, {0, 0, SMALL, BIG}};
        for (int[] b : bad) {
            DUE.is("4 bad book", x.book(b[0], b[1], b[2], b[3]), OldBottles.BAD);
        }
        x.wine(50, 1, 123, 0);
        x.bottle(1, 0, 0);
        int[] shown = {1, 2, 3};
        for (int part = 0; part < 3; part++) {
            DUE.is("4 all years at first", x.told(0, 2), 0);
            DUE.is("4 one year", x.book(part, shown[part], 50, 50), 1);
            DUE.is("4 that year", x.told(0, 2), 0);
            DUE.is("4 till", x.book(part, shown[part], 0, 49), 1);
            DUE.is("4 behind till", x.told(0, 2), 1 << part);
            DUE.is("4 from", x.book(part, shown[part], 51, 99), 1);
            DUE.is("4 ahead of from", x.told(0, 2), 1 << part);
            DUE.is("4 whole", x.book(part, shown[part], 0, 99), 1);
            DUE.is("4 another one", x.book(part, 0, 0, 0), 1);
        }
        DUE.is("4 others do not bar", x.told(0, 2), 0);
    }

    private static void test() {
        OldBottles x = new OldBottles();
        DUE.is("5 part 3", x.test(3, 0), OldBottles.BAD);
        DUE.is("5 part -1", x.test(-1, 0), OldBottles.BAD);
        DUE.is("5 year -1", x.test(0, -1), OldBottles.BAD);
        DUE.is("5 year 101", x.test(0, 101), OldBottles.BAD);
        for (int part = 0; part < 3; part++) {
            DUE.is("5 at first", x.test(part, part), 100);
            DUE.is("5 was", x.test(part, 100), part);
            DUE.is("5 was 100", x.test(part, 0), 100);
        }
    }

    private static void bottle() {
        OldBottles x = new OldBottles();
        DUE.is("6 no wine", x.bottle(0, 0, 0), OldBottles.BAD);
        x.wine(1, 1, 0, 0);
        x.wine(2, 2, 0, 0);
        int[][] bad = {{-1, 0, 0}, {6, 0, 0}, {0, 2, 0}, {0, 20, 0}, {0, -1, 0}, {0, -10, 0}, {0, 100, 0}, {0, BIG, 0},
            {0, SMALL, 0}, {0, 0, 4}, {0, 0, 40}, {0, 0, 400}, {0, 0, -1}, {BIG, 0, 0}, {0, 9, 0}};
        for (int[] b : bad) {
            DUE.is("6 bad bottle", x.bottle(b[0], b[1], b[2]), OldBottles.BAD);
        }
        DUE.is("6 nothing came", x.count(1), 0);
        for (int i = 0; i < 24; i++) {
            DUE.is("6 number", x.bottle(i % 6, i % 2 * 10 + 1, 333), i);
        }
        DUE.is("6 full", x.bottle(0, 0, 0), OldBottles.FULL);
        DUE.is("6 bad ahead of full", x.bottle(6, 0, 0), OldBottles.BAD);
        DUE.is("6 said to be", x.told(3, 1), 1);
        DUE.is("6 in it", x.taken(2, 0), 1);
    }

    private static void told() {
        OldBottles x = new OldBottles();
        x.wine(50, 9, 123, 0);
        x.wine(60, 0, 123, 0);
        int[] weights = {2, 5, 2, 3, 1, 1};
        for (int kind = 0; kind < 6; kind++) {
            x.bottle(kind, 0, 0);
            DUE.is("7 kind", x.told(kind, 0), kind);
            DUE.is("7 weight", x.told(kind, 6), weights[kind]);
            DUE.is("7 owner", x.told(kind, 7), OldBottles.NONE);
        }
        int[] odd = {7, 0, 6, 4, 4, 7};
        for (int kind = 0; kind < 6; kind++) {
            DUE.is("7 odd", x.told(kind, 3), odd[kind]);
            DUE.is("7 barred", x.told(kind, 4), 0);
        }
        x.book(2, 0, 60, 99);
        int[] bars = {4, 0, 4, 4, 4, 4};
        for (int kind = 0; kind < 6; kind++) {
            DUE.is("7 bars", x.told(kind, 2), bars[kind]);
            DUE.is("7 odd less", x.told(kind, 3), odd[kind] & ~bars[kind]);
            DUE.is("7 barred", x.told(kind, 4), bars[kind] == 0 ? 0 : 1);
        }
        DUE.is("7 doubt", x.told(0, 8), 30);
        DUE.is("7 price", x.told(0, 9), 109);
        DUE.is("7 open", x.told(0, 10), 12);
        x.bottle(1, 10, 0);
        DUE.is("7 none made", x.told(6, 4), 1);
        DUE.is("7 none made does not bar by part", x.told(6, 2), 0);
        x.sale(0, 12, 5, 5);
        x.sale(0, 34, 5, 5);
        x.sale(0, 45, 5, 5);
        DUE.is("7 gap", x.told(0, 5), 1);
        DUE.is("7 owner", x.told(0, 7), 5);
        DUE.is("7 doubt with gap", x.told(0, 8), 31);
        DUE.is("7 price when sold", x.told(1, 9), 107);
        int[][] none = {{-1, 0}, {7, 0}, {BIG, 0}, {0, -1}, {0, 11}, {0, BIG}, {SMALL, SMALL}};
        for (int[] n : none) {
            DUE.is("7 none such", x.told(n[0], n[1]), -5);
        }
    }

    private static void shows() {
        OldBottles x = new OldBottles();
        x.wine(50, 9, 123, 102099);
        x.wine(60, 9, 0, 50809);
        for (int kind = 0; kind < 6; kind++) {
            x.bottle(kind, 1, 30);
        }
        int[][] due = {
            {0, 3, 0, 5, 8, 9}, {1, 2, 3, 10, 20, 99}, {1, 3, 0, 5, 8, 9},
            {1, 2, 0, 10, 20, 99}, {1, 2, 0, 7, 14, 54}, {0, 3, 0, 0, 0, 0}};
        for (int kind = 0; kind < 6; kind++) {
            for (int which = 0; which < 6; which++) {
                DUE.is("8 kind " + kind + " shows " + which, x.shows(kind, which), due[kind][which]);
            }
        }
        x.bottle(5, 0, 333);
        int[] never = {3, 3, 3, 1, 11, 90};
        for (int which = 0; which < 6; which++) {
            DUE.is("8 never shows " + which, x.shows(6, which), never[which]);
        }
        int[][] bad = {{-1, 0}, {7, 0}, {0, -1}, {0, 6}, {BIG, BIG}, {SMALL, 0}};
        for (int[] b : bad) {
            DUE.is("8 bad", x.shows(b[0], b[1]), OldBottles.BAD);
        }
    }
}
