/** Promises 13 to 27: what follows from wines, bottles and sales. */
public final class FollowsTest {
    private static final int BIG = Integer.MAX_VALUE, SMALL = Integer.MIN_VALUE;
    private static final Due DUE = new Due("FollowsTest");

    public static void main(String[] args) {
        left();
        odds();
        sources();
        worst();
        mix();
        tongues();
        opened();
        owed();
        chain();
        falls();
        saw();
        imageAndBack();
        count();
        DUE.end();
    }

    private static void left() {
        OldBottles x = new OldBottles();
        x.wine(5, 3, 0, 0);
        x.wine(5, 3, 0, 0);
        for (int i = 0; i < 3; i++) {
            x.bottle(0, 1, 0);
        }
        x.bottle(0, 10, 0);
        DUE.is("13 left", x.left(0, 0), 3);
        x.sale(0, 12, 1, 1);
        x.sale(0, 21, 1, 1);
        x.sale(1, 12, 1, 1);
        x.sale(3, 12, 1, 1);
        DUE.is("13 sold once or twice", x.left(0, 2), 2);
        DUE.is("13 sold of the other", x.left(1, 2), 1);
        DUE.is("13 not beyond", x.left(0, 1), 0);
        x.drunk(0, 2);
        DUE.is("13 beyond", x.left(0, 1), 1);
        x.drunk(0, 999);
        DUE.is("13 left 0 at least", x.left(0, 0), 0);
        DUE.is("13 beyond", x.left(0, 1), 2);
        int[][] bad = {{-1, 0}, {2, 0}, {0, -1}, {0, 3}, {BIG, BIG}};
        for (int[] b : bad) {
            DUE.is("13 bad", x.left(b[0], b[1]), OldBottles.BAD);
        }
    }

    private static void odds() {
        OldBottles x = new OldBottles();
        x.wine(50, 9, 123, 0);
        x.wine(50, 0, 123, 0);
        int[][] due = {{425, 457}, {500, 501}, {450, 472}, {475, 481}, {475, 481}, {425, 441}};
        for (int kind = 0; kind < 6; kind++) {
            x.bottle(kind, 0, 0);
            int divisor = gcd(due[kind][0], due[kind][1]);
            DUE.is("14 above " + kind, x.odds(kind, 0), due[kind][0] / divisor);
            DUE.is("14 below " + kind, x.odds(kind, 1), due[kind][1] / divisor);
        }
        x.bottle(1, 10, 0);
        DUE.is("14 barred above", x.odds(6, 0), 0);
        DUE.is("14 barred below", x.odds(6, 1), 1);
        int[][] none = {{-1, 0}, {7, 0}, {0, -1}, {0, 2}, {BIG, BIG}, {6, 2}};
        for (int[] n : none) {
            DUE.is("14 none such", x.odds(n[0], n[1]), OldBottles.NO);
        }
        Due.text(x, "doubt 99;price 1;open 1;");
        x.force(1);
        DUE.is("14 doubt 99 above", x.odds(0, 0), 1);
        DUE.is("14 doubt 99 below", x.odds(0, 1), 41);
        DUE.is("14 doubt 99 true", x.odds(1, 1), 21);
    }

    private static int gcd(int a, int b) {
        return b == 0 ? a : gcd(b, a % b);
    }

    /** BOTTLES 0 and 1 can be sold, BOTTLE 2 is barred as none of its WINE was made. */
    private static OldBottles traded() {
        OldBottles x = new OldBottles();
        x.wine(50, 9, 123, 0);
        x.wine(50, 0, 123, 0);
        x.bottle(1, 0, 0);
        x.bottle(1, 0, 0);
        x.bottle(1, 10, 0);
        return x;
    }

    private static void sources() {
        OldBottles x = traded();
        x.sale(0, 12, 1, 1);
        x.sale(2, 13, 1, 1);
        x.sale(2, 31, 1, 1);
        DUE.is("15 sales", x.source(1, 0), 2);
        DUE.is("15 barred", x.source(1, 1), 1);
        DUE.is("15 sales", x.source(3, 0), 1);
        DUE.is("15 only bought", x.source(2, 0), 0);
        DUE.is("15 hand 9", x.source(9, 1), 0);
        int[][] bad = {{-1, 0}, {10, 0}, {0, -1}, {0, 2}, {SMALL, BIG}};
        for (int[] b : bad) {
            DUE.is("15 bad", x.source(b[0], b[1]), OldBottles.BAD);
        }
    }

    private static void worst() {
        OldBottles x = traded();
        DUE.is("16 none", x.worst(), OldBottles.NONE);
        x.sale(0, 70, 1, 1);
        DUE.is("16 share 0", x.worst(), 7);
        OldBottles y = traded();
        y.sale(0, 10, 1, 1);
        y.sale(0, 1, 1, 1);
        DUE.is("16 hand 0", y.worst(), 0);
        x.sale(0, 40, 1, 1);
        DUE.is("16 the least", x.worst(), 4);
        x.sale(1, 70, 1, 1);
        DUE.is("16 the most sales", x.worst(), 7);
        x.sale(2, 89, 1, 1);
        DUE.is("16 greatest share", x.worst(), 8);
        x.sale(0, 89, 1, 1);
        x.sale(2, 90, 1, 1);
        x.sale(2, 91, 1, 1);
        x.sale(0, 91, 1, 1);
        DUE.is("16 two of three", x.worst(), 9);
        x.sale(2, 67, 1, 1);
        x.sale(2, 67, 1, 1);
        x.sale(1, 67, 1, 1);
        DUE.is("16 like ones: the least", x.worst(), 6);
        x.sale(2, 91, 1, 1);
        x.sale(2, 91, 1, 1);
        x.sale(0, 91, 1, 1);
        DUE.is("16 like ones: four of six", x.worst(), 9);
    }

    private static void mix() {
        OldBottles x = new OldBottles();
        x.wine(1, 1, 0, 102030);
        x.wine(1, 1, 0, 908070);
        x.wine(1, 1, 0, 505050);
        x.wine(1, 1, 0, 102030);
        x.wine(1, 1, 0, 70707);
        DUE.is("17 k", x.mix(0, 1, 2, 0), 5);
        DUE.is("17 far", x.mix(0, 1, 2, 1), 0);
        DUE.is("17 like a", x.mix(0, 1, 0, 0), 10);
        DUE.is("17 like b", x.mix(0, 1, 1, 0), 0);
        DUE.is("17 like ones: the least k", x.mix(0, 3, 2, 0), 0);
        DUE.is("17 how far", x.mix(0, 3, 2, 1), 90);
        // k 10: 3 + 13 + 23; any other k is farther
        DUE.is("17 far from 7 7 7", x.mix(0, 1, 4, 1), 39);
        // cut: k 3 of 7 and 7 of 10 by 10 is 9, of 20 16, of 30 23
        DUE.is("17 cut", x.mix(4, 0, 1, 1), 80 + 60 + 40);
        int[][] bad = {{0, 0, 1, 0}, {-1, 0, 0, 0}, {0, 5, 0, 0}, {0, 1, 5, 0}, {0, 1, -1, 0}, {5, 0, 0, 0}, {0, 1, 2, -1},
            {0, 1, 2, 2}, {BIG, SMALL, 0, 0}};
        for (int[] b : bad) {
            DUE.is("17 bad", x.mix(b[0], b[1], b[2], b[3]), OldBottles.BAD);
        }
        OldBottles y = new OldBottles();
        y.wine(1, 1, 0, 70000);
        y.wine(1, 1, 0, 100000);
        y.wine(1, 1, 0, 90000);
        // k 0: 10, k 1 to 3: 9 (9.7, 9.4, 9.1 cut)
        DUE.is("17 the least k that is cut", y.mix(0, 1, 2, 0), 1);
    }

    private static void tongues() {
        OldBottles x = new OldBottles();
        x.wine(1, 1, 0, 0);
        x.wine(1, 1, 0, 0);
        for (int kind = 0; kind < 6; kind++) {
            x.bottle(kind, 1, 0);
        }
        int[] within = {1, 0, 1, 0, 1, 1};
        for (int kind = 0; kind < 6; kind++) {
            DUE.is("18 given", x.said(0, kind, 0, within[kind]), 2 * kind + 1);
            DUE.is("18 given", x.said(0, kind, 0, 1 - within[kind]), 2 * kind + 2);
        }
        DUE.is("18 full", x.said(0, 0, 0, 0), OldBottles.FULL);
        DUE.is("18 bad ahead of full", x.said(0, 0, 2, 0), OldBottles.BAD);
        x.said(2, 0, 0, 1);
        DUE.is("19 right", x.tongue(2, 0), 1);
        x.said(2, 0, 1, 0);
        DUE.is("19 taken in", x.tongue(2, 2), 1);
        DUE.is("19 of how many", x.tongue(2, 3), 1);
        int[] zero = {6, 12, 0, 0};
        for (int kind = 0; kind < 6; kind++) {
            x.said(5, kind, 1, 0);
            x.said(5, kind, 1, 1);
        }
        int[] five = {0, 0, 4, 8};
        for (int what = 0; what < 4; what++) {
            DUE.is("19 not told " + what, x.tongue(0, what), zero[what]);
            DUE.is("19 told " + what, x.tongue(5, what), five[what]);
            DUE.is("19 none given", x.tongue(3, what), 0);
        }
        int[][] bad = {{-1, 0, 0, 0}, {6, 0, 0, 0}, {1, -1, 0, 0}, {1, 6, 0, 0}, {1, 0, -1, 0}, {1, 0, 2, 0}, {1, 0, 0, -1},
            {1, 0, 0, 2}, {BIG, BIG, BIG, BIG}};
        for (int[] b : bad) {
            DUE.is("18 bad", x.said(b[0], b[1], b[2], b[3]), OldBottles.BAD);
        }
        DUE.is("18 first of another", x.said(1, 0, 0, 0), 1);
        int[][] no = {{-1, 0}, {6, 0}, {0, -1}, {0, 4}, {SMALL, 0}};
        for (int[] n : no) {
            DUE.is("19 bad", x.tongue(n[0], n[1]), OldBottles.BAD);
        }
    }

    private static void opened() {
        OldBottles x = new OldBottles();
        DUE.is("20 no bottles", x.opened(999, 0), 0);
        x.wine(50, 9, 0, 0);
        int[] parts = {111, 0, 1, 11, 11};
        for (int p : parts) {
            x.bottle(0, 0, p);
        }
        // doubts 15 0 5 10 10, costs 13 10 11 12 12
        int[][] due = {{0, 0, 0, 0}, {10, 0, 0, 0}, {11, 4, 5, 11}, {12, 8, 10, 12}, {13, 1, 15, 13}, {22, 1, 15, 13},
            {23, 1, 15, 13}, {24, 5, 20, 24}, {25, 9, 25, 25}, {36, 13, 30, 36}, {37, 25, 35, 37}, {48, 29, 40, 48},
            {999, 29, 40, 48}};
        for (int[] d : due) {
            for (int what = 0; what < 3; what++) {
                DUE.is("20 coin " + d[0] + " what " + what, x.opened(d[0], what), d[1 + what]);
            }
        }
        int[][] bad = {{-1, 0}, {1000, 0}, {0, -1}, {0, 3}, {BIG, SMALL}};
        for (int[] b : bad) {
            DUE.is("20 bad", x.opened(b[0], b[1]), OldBottles.BAD);
        }
        for (int i = 5; i < 12; i++) {
            x.bottle(0, 0, 111);
        }
        DUE.is("20 the first ten alone", x.opened(999, 0), 1021);
        Due.text(x, "doubt 4;price 0;open 1 + (odd = 3) * 3;");
        x.force(1);
        // each is doubted 4; costs 4 1 1 1 1 4 4 4 4 4
        DUE.is("20 the least coin", x.opened(4, 0), 30);
        DUE.is("20 its coin", x.opened(4, 2), 4);
        DUE.is("20 the least bits", x.opened(8, 0), 31);
    }

    private static void owed() {
        OldBottles x = traded();
        x.sale(0, 12, 100, 1);
        DUE.is("21 not barred", x.owed(1), 0);
        x.sale(2, 12, 9999, 1);
        x.sale(2, 23, 5000, 1);
        x.sale(2, 31, 1, 1);
        DUE.is("21 hand 1", x.owed(1), -9998);
        DUE.is("21 hand 2", x.owed(2), 4999);
        DUE.is("21 hand 3", x.owed(3), 4999);
        DUE.is("21 hand 0", x.owed(0), 0);
        DUE.is("21 no hand", x.owed(10), OldBottles.NO);
        DUE.is("21 no hand", x.owed(-1), OldBottles.NO);
        x.book(0, 1, 0, 0);
        DUE.is("21 barred by the book now", x.owed(1), -10098);
    }

    private static void chain() {
        OldBottles x = traded();
        DUE.is("22 never sold", x.chain(0), 0);
        int[][] due = {{12, 1}, {23, 2}, {34, 3}, {54, 1}, {43, 2}, {43, 1}, {34, 2}, {45, 3}};
        for (int[] d : due) {
            x.sale(0, d[0], 1, 1);
            DUE.is("22 chain", x.chain(0), d[1]);
        }
        DUE.is("7 gaps", x.told(0, 5), 2);
        DUE.is("22 another", x.chain(1), 0);
        DUE.is("22 bad", x.chain(3), OldBottles.BAD);
        DUE.is("22 bad", x.chain(-1), OldBottles.BAD);
    }

    private static void falls() {
        OldBottles x = new OldBottles();
        x.wine(50, 10, 0, 0);
        x.wine(50, 20, 0, 0);
        x.wine(50, 0, 0, 0);
        x.wine(50, 40, 0, 0);
        x.bottle(1, 0, 0);
        x.bottle(1, 1, 0);
        x.bottle(1, 10, 0);
        x.bottle(1, 20, 0);
        x.bottle(1, 30, 0);
        Due.text(x, "doubt 0;price made;open 1;");
        x.force(1);
        DUE.is("23 of its wine", x.falls(0, 100), 20);
        DUE.is("23 alone", x.falls(2, 100), 20);
        DUE.is("23 barred", x.falls(3, 100), 0);
        x.sale(0, 12, 1, 1);
        x.sale(2, 32, 1, 1);
        DUE.is("23 both bought by 2", x.falls(0, 100), 40);
        DUE.is("23 both bought by 2", x.falls(2, 100), 30);
        DUE.is("23 of its wine alone", x.falls(1, 100), 20);
        x.sale(4, 34, 1, 1);
        DUE.is("23 not by hands of hands", x.falls(0, 100), 40);
        x.sale(4, 51, 1, 1);
        DUE.is("23 bought by who sold", x.falls(0, 100), 80);
        x.sale(3, 15, 1, 1);
        DUE.is("23 a barred one found", x.falls(3, 100), 50);
        DUE.is("23 a share, cut", x.falls(2, 33), 70 * 33 / 100);
        DUE.is("23 share 0", x.falls(0, 0), 0);
        x.book(0, 0, 0, 0);
        DUE.is("23 all barred", x.falls(0, 100), 0);
        int[][] none = {{-1, 0}, {5, 0}, {0, -1}, {0, 101}, {BIG, SMALL}};
        for (int[] n : none) {
            DUE.is("23 none such", x.falls(n[0], n[1]), OldBottles.NO);
        }
    }

    private static void saw() {
        OldBottles x = traded();
        DUE.is("24 no sale", x.saw(0), OldBottles.BAD);
        x.sale(0, 12, 1, 30);
        x.sale(0, 12, 1, 99);
        x.sale(2, 12, 1, 99);
        x.book(1, 2, 0, 0);
        DUE.is("24 never at first", x.saw(1), 0);
        x.test(0, 0);
        x.test(2, 0);
        DUE.is("24 other parts do not bar", x.saw(1), 0);
        x.test(1, 30);
        DUE.is("24 that year", x.saw(0), 1);
        x.test(1, 31);
        DUE.is("24 behind it", x.saw(0), 0);
        DUE.is("24 later", x.saw(1), 1);
        x.test(1, 100);
        DUE.is("24 never", x.saw(1), 0);
        x.book(1, 2, 0, 99);
        x.test(1, 0);
        DUE.is("24 barred by none made alone", x.saw(2), 0);
        x.book(0, 1, 0, 0);
        DUE.is("24 by the glass", x.saw(0), 1);
        x.book(0, 1, 0, 99);
        x.book(2, 3, 0, 0);
        DUE.is("24 by the cork", x.saw(0), 1);
        DUE.is("24 bad", x.saw(3), OldBottles.BAD);
        DUE.is("24 bad", x.saw(-1), OldBottles.BAD);
        DUE.is("24 bad", x.saw(BIG), OldBottles.BAD);
    }

    private static void imageAndBack() {
        OldBottles x = traded();
        DUE.is("26 none", x.back(), OldBottles.STATE);
        x.sale(0, 12, 10, 20);
        x.sale(0, 34, 10, 30);
        x.drunk(0, 3);
        x.test(0, 40);
        x.book(0, 1, 10, 60);
        Due.text(x, "doubt 1;price 2;open 3;");
        x.force(1);
        DUE.is("25 sales", x.image(), 2);
        for (int again = 0; again < 2; again++) {
            x.sale(0, 45, 10, 90);
            x.sale(1, 12, 10, 90);
            x.drunk(0, 4);
            x.drunk(1, 5);
            x.test(0, 41);
            x.test(2, 1);
            x.book(0, 1, 90, 99);
            x.book(2, 3, 0, 9);
            x.force(0);
            DUE.is("26 changed", x.told(0, 4), 1);
            DUE.is("26 sales", x.back(), 2);
            DUE.is("26 sales", x.count(2), 2);
            DUE.is("26 sold", x.count(7), 1);
            DUE.is("26 gap", x.told(0, 5), 1);
            DUE.is("26 owner", x.told(0, 7), 4);
            DUE.is("26 chain", x.chain(0), 1);
            DUE.is("26 owner", x.told(1, 7), OldBottles.NONE);
            DUE.is("26 chain", x.chain(1), 0);
            DUE.is("26 barred", x.told(0, 4), 0);
            DUE.is("26 rule", x.count(5), 1);
            DUE.is("26 texts stay", x.count(3), 2);
            DUE.is("26 tested", x.test(0, 40), 40);
            DUE.is("26 tested", x.test(2, 100), 100);
            DUE.is("26 drunk", x.drunk(0, 3), 3);
            DUE.is("26 drunk", x.drunk(1, 0), 0);
        }
        DUE.is("26 the year too", x.sale(0, 45, 10, 29), OldBottles.BAD);
        DUE.is("26 the year too", x.sale(0, 45, 10, 30), 2);
        DUE.is("26 the year of another", x.sale(1, 45, 10, 0), 3);
        x.wine(9, 9, 0, 0);
        x.drunk(2, 8);
        x.bottle(0, 20, 0);
        x.said(0, 0, 0, 0);
        x.feed(1, 'x');
        x.sheet(0, 2, 5);
        DUE.is("26 back", x.back(), 2);
        DUE.is("26 wines stay", x.count(0), 3);
        DUE.is("26 and what was drunk of new ones", x.drunk(2, 0), 8);
        DUE.is("26 bottles stay", x.count(1), 4);
        DUE.is("26 tongues stay", x.tongue(0, 1), 1);
        DUE.is("26 the tape stays", x.count(4), 1);
        DUE.is("26 sheets stay", x.cell(0, 4, 0), 1);
        x.sale(1, 12, 1, 1);
        DUE.is("25 a new image", x.image(), 3);
        x.sale(1, 12, 1, 1);
        DUE.is("26 of the new image", x.back(), 3);
    }

    private static void count() {
        OldBottles x = traded();
        x.sale(0, 12, 1, 1);
        x.sale(0, 12, 1, 1);
        x.sale(2, 12, 1, 1);
        Due.text(x, "doubt 1;price 2;open 3;");
        x.force(1);
        x.feed(3, 0);
        int[] due = {2, 3, 3, 2, 3, 1, 1, 2};
        for (int what = 0; what < due.length; what++) {
            DUE.is("27 count " + what, x.count(what), due[what]);
        }
        x.book(0, 1, 0, 0);
        DUE.is("27 barred", x.count(6), 3);
        for (int i = 3; i < 24; i++) {
            x.bottle(0, 0, 0);
        }
        DUE.is("27 24 bottles, barred", x.count(6), 3);
        DUE.is("27 24 bottles, sold", x.count(7), 2);
        DUE.is("23 24 bottles", x.falls(0, 100), 21 * 2);
        x.sale(23, 12, 1, 1);
        DUE.is("13 24 bottles", x.left(0, 2), 2);
        DUE.is("27 the last one sold", x.count(7), 3);
        DUE.is("27 bad", x.count(8), OldBottles.BAD);
        DUE.is("27 bad", x.count(-1), OldBottles.BAD);
        DUE.is("27 bad", x.count(BIG), OldBottles.BAD);
    }
}
