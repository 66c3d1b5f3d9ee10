/** Promises 9 to 12: sale, feed, text, force. */
public final class TextsTest {
    private static final int BIG = Integer.MAX_VALUE, SMALL = Integer.MIN_VALUE;
    private static final Due DUE = new Due("TextsTest");

    public static void main(String[] args) {
        sale();
        feed();
        values();
        bounds();
        faults();
        nesting();
        full();
        force();
        DUE.end();
    }

    private static void sale() {
        OldBottles x = new OldBottles();
        x.wine(5, 5, 0, 0);
        x.bottle(0, 0, 0);
        x.bottle(0, 0, 0);
        int[][] bad = {{-1, 12, 0, 0}, {2, 12, 0, 0}, {0, -1, 0, 0}, {0, 100, 0, 0}, {0, 0, 0, 0}, {0, 99, 0, 0},
            {0, 12, -1, 0}, {0, 12, 10000, 0}, {0, 12, 0, -1}, {0, 12, 0, 100}, {0, SMALL, 0, 0}, {0, BIG, 0, 0}};
        for (int[] b : bad) {
            DUE.is("9 bad sale", x.sale(b[0], b[1], b[2], b[3]), OldBottles.BAD);
        }
        DUE.is("9 nothing came", x.count(2), 0);
        DUE.is("9 first", x.sale(0, 1, 0, 50), 0);
        DUE.is("9 other bottle", x.sale(1, 98, 9999, 0), 1);
        DUE.is("9 ahead", x.sale(0, 12, 0, 49), OldBottles.BAD);
        DUE.is("9 the same year", x.sale(0, 12, 0, 50), 2);
        for (int i = 3; i < 40; i++) {
            DUE.is("9 number", x.sale(0, 12, 0, 99), i);
        }
        DUE.is("9 full", x.sale(0, 12, 0, 99), OldBottles.FULL);
        DUE.is("9 bad ahead of full", x.sale(0, 11, 0, 99), OldBottles.BAD);
        DUE.is("9 owner", x.told(1, 7), 8);
    }

    private static void feed() {
        OldBottles x = new OldBottles();
        DUE.is("10 n 0", x.feed(0, 1), OldBottles.BAD);
        DUE.is("10 n 9", x.feed(9, 1), OldBottles.BAD);
        DUE.is("10 n below", x.feed(SMALL, 1), OldBottles.BAD);
        for (int i = 1; i <= 19; i++) {
            DUE.is("10 how many", x.feed(8, 0x2020202020202020L), 8 * i);
        }
        DUE.is("10 one", x.feed(1, ' '), 153);
        DUE.is("10 full", x.feed(8, 0), OldBottles.FULL);
        DUE.is("10 bad ahead of full", x.feed(9, 0), OldBottles.BAD);
        DUE.is("10 seven", x.feed(7, 0x20202020202020L), 160);
        DUE.is("10 full at 160", x.feed(1, 0), OldBottles.FULL);
        DUE.is("10 count", x.count(4), 160);
        DUE.is("11 blanks alone", x.text(), -260);
        DUE.is("11 empty then", x.count(4), 0);
        DUE.is("10 the lowest bytes", x.feed(2, 0x7a7a7a626f64L), 2);
        DUE.is("11 do is no word", x.text(), -100);
    }

    /** An object with a BOTTLE of bars 1, odd 2, gap 1, year 50, made 9, sold 2. */
    private static OldBottles known() {
        OldBottles x = new OldBottles();
        x.wine(50, 9, 123, 0);
        x.bottle(0, 0, 0);
        x.bottle(1, 0, 0);
        x.bottle(1, 0, 0);
        x.book(2, 0, 60, 99);
        x.sale(0, 12, 1, 1);
        x.sale(0, 34, 1, 1);
        x.sale(1, 12, 1, 1);
        return x;
    }

    private static void price(String e, int want) {
        OldBottles x = known();
        DUE.is("11 " + e, Due.text(x, "doubt 0;price " + e + ";open 1;"), 1);
        DUE.is("11 forced", x.force(1), 0);
        DUE.is("11 " + e, x.told(0, 9), want);
    }

    private static void values() {
        price("bars", 1);
        price("odd", 2);
        price("gap", 1);
        price("year", 50);
        price("made", 9);
        price("sold", 2);
        price("9999", 9999);
        price("0007", 7);
        price("2 + 3 * 4", 14);
        price("20 - 3 - 4", 13);
        price("(2+3)*4", 20);
        price("- 2 * - 3", 6);
        price("5 - -3", 8);
        price("--7", 7);
        price("1 < 2", 1);
        price("2 < 2", 0);
        price("2 = 2", 1);
        price("2 = 3", 0);
        price("-1 < 0", 1);
        price("not 0", 1);
        price("not 7", 0);
        price("not not 7", 1);
        price("not 1 = 2", 1);
        price("7 or 0", 1);
        price("0 or 0", 0);
        price("7 and 5", 1);
        price("7 and 0", 0);
        price("1 and 1", 1);
        price("0 and 1", 0);
        price("0 or 1", 1);
        price("1 or 1 and 0", 1);
        price("(1 or 1) and 0", 0);
        price("0 and 0 or 5", 1);
        price("not 0 and 0", 0);
        price("not (0 and 0)", 1);
        price("(1 < 2) + (2 < 3)", 2);
        price("1+1<1+2", 1);
        price("10-(2-3)", 11);
        price("1or0", 1);
        price("1 or-1", 1);
        price("\n5\n", 5);
        price("9999*9999*9999*9999*9999+(0<9999*9999*43)", wrapped());
    }

    private static int wrapped() {
        int v = 9999 * 9999 * 9999 * 9999 * 9999 + (0 < 9999 * 9999 * 43 ? 1 : 0);
        return Math.max(0, Math.min(9999, v));
    }

    private static void bounds() {
        int[][] due = {{-1, 0, 0, 1}, {0, 0, 0, 1}, {1, 1, 1, 1}, {99, 99, 99, 99}, {100, 99, 100, 100},
            {999, 99, 999, 999}, {1000, 99, 1000, 999}, {9999, 99, 9999, 999}, {10000, 99, 9999, 999}};
        for (int[] d : due) {
            OldBottles x = known();
            String e = d[0] < 0 ? "-" + -d[0] : d[0] > 9999 ? "9999+" + (d[0] - 9999) : "" + d[0];
            Due.text(x, "doubt " + e + ";price " + e + ";open " + e + ";");
            x.force(1);
            for (int clause = 0; clause < 3; clause++) {
                DUE.is("11 bound of " + e, x.told(0, 8 + clause), d[1 + clause]);
            }
        }
    }

    private static void fault(String text, int place) {
        OldBottles x = new OldBottles();
        DUE.is("11 fault in \"" + text + "\"", Due.text(x, text), -100 - place);
        DUE.is("11 empty by a fault too", x.count(4), 0);
        DUE.is("11 no text came", x.count(3), 1);
        DUE.is("11 read anew", Due.text(x, "doubt 1;price 2;open 3;"), 1);
    }

    private static void faults() {
        fault("", 0);
        fault(" ", 1);
        fault("price 1;", 0);
        fault("doubt", 5);
        fault("doubt ", 6);
        fault("doubt 1", 7);
        fault("doubt 1;", 8);
        fault("doubt 1;price 2;open 3", 22);
        fault("doubt 1;price 2;open 3;;", 23);
        fault("doubt 1;price 2;open 3; doubt", 24);
        fault("doubt 1;price 2;open 3;#", 23);
        fault("doubt 1;open 2;price 3;", 8);
        fault("doubt1;price 2;open 3", 21);
        fault("doubts 1;", 0);
        fault("doub 1;", 0);
        fault("Doubt 1;", 0);
        fault("doubt 12345;", 6);
        fault("doubt 00000;", 6);
        fault("doubt 1 2;", 8);
        fault("doubt bar;", 6);
        fault("doubt barsodd;", 6);
        fault("doubt barsz;", 6);
        fault("doubt abars;", 6);
        fault("doubt zbars;", 6);
        fault("doubt bars9z;", 10);
        fault("doubt 1`;", 7);
        fault("doubt 1{;", 7);
        fault("doubt 1/;", 7);
        fault("doubt 1:;", 7);
        fault("doubt o;", 6);
        fault("doubt no;", 6);
        fault("doubt price;", 6);
        fault("doubt or 1;", 6);
        fault("doubt 1 or;", 10);
        fault("doubt 1 and ;", 12);
        fault("doubt 1 or or 1;", 11);
        fault("doubt 1 + not 1;", 10);
        fault("doubt - not 1;", 8);
        fault("doubt not;", 9);
        fault("doubt 1 < 2 < 3;", 12);
        fault("doubt 1 = 2 = 3;", 12);
        fault("doubt 1 < 2 = 3;", 12);
        fault("doubt 1 <= 2;", 9);
        fault("doubt 1 > 2;", 8);
        fault("doubt 1 / 2;", 8);
        fault("doubt + 1;", 6);
        fault("doubt * 1;", 6);
        fault("doubt ();", 7);
        fault("doubt (1;", 8);
        fault("doubt (1", 8);
        fault("doubt 1);", 7);
        fault("doubt 1 (2);", 8);
        fault("doubt 1 not 2;", 8);
        fault("doubt 1\t;", 7);
        fault("doubt 1\r;", 7);
        fault("doubt 1" + (char) 0 + ";", 7);
        fault("doubt 1" + (char) 255 + ";", 7);
        fault("doubt 1" + (char) 160 + ";", 7);
        fault("" + (char) 128, 0);
    }

    private static void opens(String e) {
        OldBottles x = new OldBottles();
        DUE.is("11 opens " + e, Due.text(x, "doubt " + e + ";price 0;open 0;"), 1);
    }

    private static void nesting() {
        opens("(((((1)))))");
        opens("-----1");
        opens("not not not not not 1");
        opens("not(not(-1))");
        opens("not(not(-1))or((((-1))))and-(-(-1))");
        opens("(((((1)))))+(((((1)))))*-----1");
        opens("not not not not(1)<(1)");
        opens("-1*-1*-1*-1*-1*-1*-1");
        opens("1- -1- -1- -1- -1- -1- -1");
        opens("not 1 or not 1 or not 1 or not 1 or not 1 or not 1");
        opens("((((not 1))))");
        fault("doubt ((((((1))))));", 11);
        fault("doubt ------1;", 11);
        fault("doubt not not not not not not 1;", 26);
        fault("doubt not not not not not(1);", 25);
        fault("doubt not not not not not 1<-1;", 28);
        fault("doubt not not not not not 1+1*(1);", 30);
        fault("doubt -((((-1))));", 11);
        fault("doubt (((((not 1)))));", 11);
        fault("doubt (((((1)))))+((((((", 23);
        fault("doubt ((((-1)))-(((1)));", 23);
        fault("doubt (((((1 - -1)))));", 15);
    }

    private static void full() {
        OldBottles x = new OldBottles();
        for (int i = 1; i < 6; i++) {
            DUE.is("11 number", Due.text(x, "doubt 1;price 2;open 3;"), i);
        }
        DUE.is("10 rest", Due.feed(x, "doubt 1;#"), 9);
        DUE.is("11 full ahead of all", x.text(), OldBottles.FULL);
        DUE.is("11 the tape stays", x.count(4), 9);
        DUE.is("11 six texts", x.count(3), 6);
        String wide = " ".repeat(160 - 23) + "doubt 1;price 2;open 3;";
        DUE.is("11 160 bytes", Due.text(new OldBottles(), wide), 1);
        DUE.is("11 159 bytes, then none", Due.text(new OldBottles(), wide.substring(0, 159)), -259);
    }

    private static void force() {
        OldBottles x = known();
        DUE.is("12 no text 1", x.force(1), OldBottles.BAD);
        DUE.is("12 no text -1", x.force(-1), OldBottles.BAD);
        DUE.is("12 text 0", x.force(0), 0);
        Due.text(x, "doubt 1;price 2;open 3;");
        Due.text(x, "doubt 4;price 5;open 6;");
        DUE.is("12 not forced yet", x.count(5), 0);
        DUE.is("12 was 0", x.force(2), 0);
        DUE.is("12 price of 2", x.told(0, 9), 5);
        DUE.is("12 was 2", x.force(1), 2);
        DUE.is("12 doubt of 1", x.told(0, 8), 1);
        DUE.is("12 open of 1", x.told(0, 10), 3);
        DUE.is("12 bad", x.force(3), OldBottles.BAD);
        DUE.is("12 bad", x.force(BIG), OldBottles.BAD);
        DUE.is("12 stays", x.count(5), 1);
        DUE.is("12 was 1", x.force(0), 1);
        DUE.is("12 doubt of 0", x.told(0, 8), 31);
    }
}
