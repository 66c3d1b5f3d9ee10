/** The boundaries that the document names of promises 9 to 12, a test for each sentence. */
public final class TextsEdgeTest {
    private static final int BAD = OldBottles.BAD, FULL = OldBottles.FULL, FORTY = 40;
    private static final String PLAIN = "doubt 1;price 2;open 3;";
    /** 2147483647 in as many signs as it takes. */
    private static final String GREATEST = "9999*9999*21+9999*4790+8416";
    private static final Sentences S = new Sentences("TextsEdgeTest");

    public static void main(String[] args) {
        sale();
        saleYears();
        fullSales();
        feed();
        feedBytes();
        text();
        longTexts();
        fullTexts();
        tokens();
        grammar();
        numbers();
        truths();
        wrapping();
        faults();
        places();
        openOnes();
        names();
        clauses();
        theRule();
        force();
        S.end();
    }

    private static void due(long got, long want) {
        S.due(got, want);
    }

    /** A WINE of which none was MADE, so that all is owed back, and two BOTTLES. */
    private static void twoBarred(OldBottles x) {
        x.wine(1, 0, 0, 0);
        x.bottle(0, 0, 0);
        x.bottle(0, 0, 0);
    }

    private static void sale() {
        S.hold("A SALE (hands: 10 times who sold, and who bought): its number. BAD; FULL.", x -> {
            due(x.sale(0, 12, 1, 1), BAD);
            twoBarred(x);
            S.refused(BAD, Sentences.beyond(0, 1), v -> x.sale(v, 12, 1, 1));
            due(x.count(2), 0);
            due(x.sale(1, 12, 1, 1), 0);
            due(x.sale(0, 12, 1, 1), 1);
        });
        S.hold("who sold, who bought (HANDS 0 .. 9, unlike)", x -> {
            twoBarred(x);
            S.refused(BAD, Sentences.beyond(0, 99), v -> x.sale(0, v, 1, 1));
            S.refused(BAD, new int[] {-10, -12, -9, -89, 110, 109, 120, 190, 910, 989}, v -> x.sale(0, v, 1, 1));
            for (int hand = 0; hand < 10; hand++) {
                due(x.sale(0, 11 * hand, 1, 1), BAD);
            }
            due(x.count(2), 0);
            due(x.told(0, 7), OldBottles.NONE);
            due(x.sale(0, 1, 5, 1), 0);
            due(x.source(0, 0), 1);
            due(x.told(0, 7), 1);
            due(x.sale(0, 10, 5, 1), 1);
            due(x.told(0, 7), 0);
            due(x.sale(0, 90, 5, 1), 2);
            due(x.sale(0, 9, 5, 1), 3);
            due(x.sale(0, 98, 5, 1), 4);
            due(x.sale(0, 89, 5, 1), 5);
            due(x.source(9, 0), 2);
            due(x.told(0, 7), 9);
        });
        S.hold("a PRICE (0 .. 9999)", x -> {
            twoBarred(x);
            S.refused(BAD, Sentences.beyond(0, 9999), v -> x.sale(0, 12, v, 1));
            due(x.count(2), 0);
            due(x.sale(0, 12, 0, 1), 0);
            due(x.owed(2), 0);
            due(x.sale(0, 12, 9999, 1), 1);
            due(x.owed(2), 9999);
        });
    }

    private static void saleYears() {
        S.hold("a YEAR (0 .. 99, not ahead of the last SALE of that BOTTLE)", x -> {
            twoBarred(x);
            S.refused(BAD, Sentences.beyond(0, 99), v -> x.sale(0, 12, 1, v));
            due(x.count(2), 0);
            due(x.sale(0, 12, 1, 0), 0);
            due(x.sale(0, 12, 1, 0), 1);
            due(x.sale(0, 12, 1, 99), 2);
            due(x.sale(0, 12, 1, 99), 3);
            due(x.sale(0, 12, 1, 98), BAD);
            due(x.sale(0, 12, 1, 100), BAD);
            due(x.sale(0, 12, 1, 0), BAD);
            due(x.count(2), 4);
        });
        S.hold("not ahead of the last SALE of that BOTTLE", x -> {
            twoBarred(x);
            x.sale(0, 12, 1, 50);
            due(x.sale(1, 12, 1, 10), 1);
            due(x.sale(0, 12, 1, 49), BAD);
            due(x.sale(0, 12, 1, 50), 2);
            due(x.sale(1, 12, 1, 9), BAD);
            due(x.sale(1, 12, 1, 11), 3);
            due(x.sale(0, 12, 1, 51), 4);
            due(x.sale(0, 12, 1, 50), BAD);
        });
        S.hold("they change nothing: BAD", x -> {
            twoBarred(x);
            x.sale(0, 12, 1, 50);
            due(x.sale(0, 34, 1, 49), BAD);
            due(x.sale(0, 34, 10000, 60), BAD);
            due(x.sale(0, 33, 1, 60), BAD);
            due(x.sale(0, 134, 1, 60), BAD);
            due(x.told(0, 5), 0);
            due(x.told(0, 7), 2);
            due(x.chain(0), 1);
            due(x.owed(2), 1);
            due(x.source(3, 0), 0);
            due(x.sale(0, 23, 1, 50), 1);
            due(x.chain(0), 2);
        });
    }

    private static void fullSales() {
        S.hold("SALES (40 at most, numbered from 0)", x -> {
            twoBarred(x);
            for (int i = 0; i < FORTY; i++) {
                due(x.sale(0, i % 2 == 0 ? 12 : 21, 100, i), i);
            }
            due(x.count(2), FORTY);
            due(x.sale(0, 89, 1, 99), FULL);
            due(x.sale(1, 89, 1, 99), FULL);
            due(x.count(2), FORTY);
            due(x.count(7), 1);
            due(x.told(0, 5), 0);
            due(x.told(0, 7), 1);
            due(x.told(1, 7), OldBottles.NONE);
            due(x.chain(0), FORTY);
            due(x.owed(9), 0);
            due(x.saw(39), 0);
            due(x.saw(40), BAD);
        });
        S.hold("and who bought): its number. BAD; FULL.", x -> {
            twoBarred(x);
            for (int i = 0; i < FORTY; i++) {
                x.sale(0, 12, 1, 50);
            }
            due(x.sale(0, 12, 1, 50), FULL);
            due(x.sale(2, 12, 1, 50), BAD);
            due(x.sale(0, 11, 1, 50), BAD);
            due(x.sale(0, 100, 1, 50), BAD);
            due(x.sale(0, 12, 10000, 50), BAD);
            due(x.sale(0, 12, 1, 100), BAD);
            due(x.sale(0, 12, 1, 49), BAD);
        });
    }

    private static void feed() {
        S.hold("BAD: n is not 1 .. 8. FULL.", x -> {
            S.refused(BAD, Sentences.beyond(1, 8), v -> x.feed(v, 'x'));
            due(x.count(4), 0);
            due(x.feed(1, 0), 1);
            due(x.feed(8, 0), 9);
            due(x.count(4), 9);
            due(x.feed(0, 0), BAD);
            due(x.count(4), 9);
        });
        S.hold("THE TAPE (160 bytes at most)", x -> {
            for (int i = 1; i <= 20; i++) {
                due(x.feed(8, 0), 8 * i);
            }
            for (int n = 1; n <= 8; n++) {
                due(x.feed(n, 0), FULL);
            }
            due(x.count(4), 160);
            due(x.feed(0, 0), BAD);
            due(x.feed(9, 0), BAD);
            due(x.count(4), 160);
        });
        S.hold("THE TAPE (160 bytes at most)", x -> {
            for (int i = 1; i <= 19; i++) {
                x.feed(8, 0x2020202020202020L);
            }
            due(x.feed(2, 0x2020), 154);
            due(x.feed(7, 0x2020), FULL);
            due(x.feed(8, 0x2020), FULL);
            due(x.count(4), 154);
            due(x.feed(5, 0x2020202020L), 159);
            due(x.feed(2, 0x2020), FULL);
            due(x.count(4), 159);
            due(x.feed(1, 0x20), 160);
            due(x.feed(1, 0x20), FULL);
            // nothing of what was refused came: all are blanks
            due(x.text(), -260);
            due(x.feed(8, 0), 8);
        });
        S.hold("how many it has. BAD: n is not 1 .. 8. FULL.", x -> {
            for (int i = 1; i <= 20; i++) {
                x.feed(8, 0);
            }
            S.refused(BAD, Sentences.beyond(1, 8), v -> x.feed(v, 0));
        });
    }

    private static void feedBytes() {
        S.hold("The n lowest bytes of a number, the lowest first", x -> {
            // "doubt 1" with bytes above that must not come
            due(x.feed(7, 0x7f31207462756f64L), 7);
            due(x.feed(1, 0xffffffffffffff3bL), 8);
            due(x.feed(8, 0x3b32206563697270L), 16);
            due(x.feed(2, 0x3b3b3b3b3b3b706fL), 18);
            due(x.feed(5, 0x3b33206e65L), 23);
            due(x.text(), 1);
        });
        S.hold("The n lowest bytes of a number, the lowest first", x -> {
            // the eighth byte is 0x80: below 0 as a number, and none that begins a TOKEN
            due(x.feed(8, 0x80207462756f6420L), 8);
            due(x.text(), -107);
            due(x.feed(3, -1L), 3);
            due(x.text(), -100);
            due(x.feed(1, 0x6f6400), 1);
            due(x.text(), -100);
            due(x.feed(8, 0x7462756f6420200aL), 8);
            due(x.text(), -108);
        });
        S.hold("come behind THE TAPE", x -> {
            // "dou" and "bt" are one WORD when they stand together
            due(x.feed(3, 0x756f64L), 3);
            due(x.feed(2, 0x7462L), 5);
            due(x.text(), -105);
        });
    }

    /** A TEXT is read at once from a new object's THE TAPE: its number, or its FAULT. */
    private static int read(String text) {
        return Due.text(new OldBottles(), text);
    }

    private static void good(String e) {
        due(read("doubt " + e + ";price 2;open 3;"), 1);
    }

    /** The place of the FAULT in a text that begins with doubt. */
    private static void fault(String e, int place) {
        OldBottles x = new OldBottles();
        due(Due.text(x, e), -100 - place);
        due(x.count(3), 1);
        due(x.count(4), 0);
    }

    private static void text() {
        S.hold("THE TAPE, which is empty then (by a FAULT, too), is a TEXT: its number; -100 less the place of its FAULT.",
                x -> {
            due(x.text(), -100);
            due(Due.text(x, PLAIN), 1);
            due(x.count(4), 0);
            due(x.text(), -100);
            due(Due.text(x, "doubt ?"), -106);
            due(x.count(4), 0);
            due(x.count(3), 2);
            due(Due.text(x, PLAIN), 2);
            due(Due.text(x, ""), -100);
            due(x.count(3), 3);
            due(x.count(5), 0);
        });
        S.hold("THE TAPE, which is empty then (by a FAULT, too)", x -> {
            // what stood on THE TAPE ahead leaves nothing behind
            Due.text(x, PLAIN);
            due(Due.text(x, "doubt 1;"), -108);
            due(Due.text(x, "doubt 1;price 2;open 3"), -122);
            due(Due.text(x, PLAIN + "#"), -123);
            due(Due.text(x, "doub"), -100);
            due(Due.text(x, PLAIN), 2);
        });
        S.hold("A TEXT is read from THE TAPE (160 bytes at most).", x -> {
            String wide = " ".repeat(160 - PLAIN.length()) + PLAIN;
            due(Due.feed(x, wide), 160);
            due(x.text(), 1);
            due(Due.feed(x, PLAIN + "\n".repeat(160 - PLAIN.length())), 160);
            due(x.text(), 2);
            due(Due.text(x, wide.substring(1) + ";"), -259);
            due(Due.text(x, wide.substring(0, 159)), -259);
        });
    }

    private static void longTexts() {
        S.hold("A TEXT is read from THE TAPE (160 bytes at most).", x -> {
            // five of 160 bytes, as full of ONES as can be, each with numbers of its own
            x.wine(1, 1, 0, 0);
            x.bottle(0, 0, 0);
            for (int i = 1; i <= 5; i++) {
                String text = "doubt " + i + "+0".repeat(23) + ";price 1" + i + "+0".repeat(22) + ";open 2" + i;
                text = text + "-0".repeat((159 - text.length()) / 2);
                text = text + " ".repeat(159 - text.length()) + ";";
                due(Due.feed(x, text), 160);
                due(x.text(), i);
            }
            for (int i = 5; i > 0; i--) {
                x.force(i);
                due(x.told(0, 8), i);
                due(x.told(0, 9), 10 + i);
                due(x.told(0, 10), 20 + i);
            }
        });
        S.hold("which is empty then (by a FAULT, too)", x -> {
            // what was read of TEXTS that can't stand leaves nothing behind in those that come after
            x.wine(1, 1, 0, 0);
            x.bottle(0, 0, 0);
            String text = "doubt 7" + "*7".repeat(70) + ";";
            for (int i = 0; i < 8; i++) {
                due(Due.text(x, text), -100 - text.length());
            }
            due(Due.text(x, "doubt 1+2;price 2*3;open 9-5;"), 1);
            x.force(1);
            due(x.told(0, 8), 3);
            due(x.told(0, 9), 6);
            due(x.told(0, 10), 4);
        });
        S.hold("A TEXT is read from THE TAPE (160 bytes at most).", x -> {
            // TOKENS that end where THE TAPE does, whole ones and such as only begin like one
            String[] ends = {"bar", "bars", "d", "doub", "sol", "sold", "o", "ope", "no", "an", "a", "123", "1234", "12345"};
            for (String e : ends) {
                String text = "doubt" + " ".repeat(155 - e.length()) + e;
                boolean stands = e.equals("bars") || e.equals("sold") || e.equals("123") || e.equals("1234");
                fault(text, stands ? 160 : 160 - e.length());
                fault(" ".repeat(160 - e.length()) + e, 160 - e.length());
            }
            fault(" ".repeat(155) + "doubt", 160);
            fault("doubt " + "(".repeat(154), 11);
            fault("doubt " + "-".repeat(154), 11);
            fault("doubt 1" + ")".repeat(153), 7);
            fault("doubt " + "not ".repeat(38) + "1 ", 26);
            fault("x".repeat(160), 0);
            fault("1".repeat(160), 0);
            fault("doubt " + "1".repeat(154), 6);
        });
    }

    private static void fullTexts() {
        S.hold("There are 6 TEXTS at most, TEXT 0 with them.", x -> {
            for (int i = 1; i < 6; i++) {
                due(x.count(3), i);
                due(Due.text(x, PLAIN), i);
            }
            due(Due.text(x, PLAIN), FULL);
            due(x.count(3), 6);
            due(x.force(5), 0);
            due(x.force(6), BAD);
        });
        S.hold("FULL (ahead of all): no TEXT more has room (THE TAPE stays).", x -> {
            for (int i = 1; i < 6; i++) {
                Due.text(x, PLAIN);
            }
            due(x.text(), FULL);
            due(Due.feed(x, "doubt ?"), 7);
            due(x.text(), FULL);
            due(x.text(), FULL);
            due(x.count(4), 7);
            due(x.feed(1, '?'), 8);
            for (int i = 0; i < 19; i++) {
                x.feed(8, 0);
            }
            due(x.text(), FULL);
            due(x.feed(1, 0), FULL);
            due(x.count(4), 160);
        });
    }

    private static void tokens() {
        S.hold("TOKENS, each as long as can be: WORDS (a .. z)", x -> {
            fault("doubts 1;", 0);
            fault("doubt barsodd;", 6);
            fault("doubt oddbars;", 6);
            fault("doubt orodd;", 6);
            fault("doubt 1 orodd;", 8);
            fault("doubt notodd;", 6);
            fault("doubt 1 andodd;", 8);
            fault("doubtodd;", 0);
            fault("doubt bar;", 6);
            fault("doubt o;", 6);
            fault("doubt a;", 6);
            fault("doubt z;", 6);
            fault("doubt oddz;", 6);
            fault("doubt odda;", 6);
            fault("doubt zodd;", 6);
            fault("doubt Odd;", 6);
            fault("doubt oDd;", 6);
            fault("doubt odD;", 6);
            fault("doubt ODD;", 6);
            fault("doubt odd`;", 9);
            fault("doubt odd{;", 9);
        });
        S.hold("NUMBERS (as many digits as stand there, 4 at most)", x -> {
            good("0");
            good("9");
            good("0000");
            good("9999");
            fault("doubt 10000;", 6);
            fault("doubt 00000;", 6);
            fault("doubt 99999;", 6);
            fault("doubt 00001;", 6);
            fault("doubt 123456789012345678901234567890;", 6);
            fault("doubt 4294967297;", 6);
            fault("doubt 1 2;", 8);
            fault("doubt 1/;", 7);
            fault("doubt 1:;", 7);
            fault("doubt 1.5;", 7);
        });
        S.hold("SIGNS ( ) ; + - * < = ; blanks (32, 10) may stand between.", x -> {
            due(read("doubt1;price2;open3;"), 1);
            due(read(" doubt 1 ; price 2 ; open 3 ; "), 1);
            due(read("\n\n doubt\n1\n;\nprice\n2\n;\nopen\n3\n;\n \n"), 1);
            due(read("doubt(1)+2-3*4<5;price 1=2;open-1;"), 1);
            due(read("doubt1or2and 3;price not(1)or 2;open 3;"), 1);
            due(read("doubt 12or 3;price 1and 2;open 3;"), 1);
            int[] none = {0, 1, 9, 11, 12, 13, 31, 33, 34, 37, 39, 44, 46, 47, 58, 62, 63, 64, 65, 90, 91, 95, 96, 123, 127,
                128, 138, 160, 168, 176, 187, 189, 225, 255};
            for (int b : none) {
                fault((char) b + PLAIN, 0);
                fault("doubt 1" + (char) b + ";price 2;open 3;", 7);
                fault(PLAIN + (char) b, PLAIN.length());
            }
        });
    }

    private static void grammar() {
        S.hold("TEXT: doubt E ; price E ; open E ;", x -> {
            due(read(PLAIN), 1);
            fault("", 0);
            fault(";", 0);
            fault("1", 0);
            fault("doubt;", 5);
            fault("doubt 1 price 2;", 8);
            fault("doubt 1;;", 8);
            fault("doubt 1;doubt 2;", 8);
            fault("doubt 1;open 2;price 3;", 8);
            fault("price 1;doubt 2;open 3;", 0);
            fault("doubt 1;price;", 13);
            fault("doubt 1;price 2 open 3;", 16);
            fault("doubt 1;price 2;doubt 3;", 16);
            fault("doubt 1;price 2;open;", 20);
            fault(PLAIN + ";", 23);
            fault(PLAIN + " doubt 1;", 24);
            fault(PLAIN + PLAIN, 23);
        });
        S.hold("E: AND { or AND }. AND: NOT { and NOT }.", x -> {
            good("1 or 2 or 3 or 4 or 5 or 6 or 7");
            good("1 and 2 and 3 and 4 and 5 and 6");
            good("1 or 2 and 3 or 4");
            good("not 1 or not 2 and not 3");
            fault("doubt 1 or;", 10);
            fault("doubt or 1;", 6);
            fault("doubt 1 or or 2;", 11);
            fault("doubt 1 and;", 11);
            fault("doubt and 1;", 6);
            fault("doubt 1 and or 2;", 12);
            fault("doubt 1 or and 2;", 11);
        });
        S.hold("NOT: not NOT, or SUM, perhaps < or = and a SUM.", x -> {
            good("not not 1");
            good("1<2");
            good("1=2");
            good("not 1<2");
            good("(1<2)<3");
            good("1<(2=3)");
            fault("doubt not;", 9);
            fault("doubt 1<2<3;", 9);
            fault("doubt 1=2=3;", 9);
            fault("doubt 1<2=3;", 9);
            fault("doubt 1=2<3;", 9);
            fault("doubt 1<not 2;", 8);
            fault("doubt 1=not 2;", 8);
            fault("doubt 1<=2;", 8);
            fault("doubt 1==2;", 8);
            fault("doubt <1;", 6);
            fault("doubt 1<;", 8);
            fault("doubt 1 not 2;", 8);
        });
        S.hold("SUM: TERM { + or - TERM }. TERM: ONE { * ONE }.", x -> {
            good("1+2-3+4-5");
            good("1*2*3*4");
            good("1- -2");
            good("1--2");
            good("1*-2");
            good("1+-2");
            fault("doubt +1;", 6);
            fault("doubt *1;", 6);
            fault("doubt 1++2;", 8);
            fault("doubt 1-+2;", 8);
            fault("doubt 1-*2;", 8);
            fault("doubt 1**2;", 8);
            fault("doubt 1*+2;", 8);
            fault("doubt 1+;", 8);
            fault("doubt 1-;", 8);
            fault("doubt 1*;", 8);
            fault("doubt 1+not 2;", 8);
            fault("doubt 1*not 2;", 8);
        });
        S.hold("ONE: a NUMBER, a NAME, - ONE, ( E ).", x -> {
            good("(1 or not 2)");
            good("-(1 or 2)");
            good("- - 1");
            good("-odd");
            good("(-odd)*(-(1))");
            fault("doubt ();", 7);
            fault("doubt (1;", 8);
            fault("doubt 1);", 7);
            fault("doubt (1));", 9);
            fault("doubt ((1);", 10);
            fault("doubt )1(;", 6);
            fault("doubt 1(2);", 7);
            fault("doubt (1)(2);", 9);
            fault("doubt (1)2;", 9);
            fault("doubt odd odd;", 10);
            fault("doubt odd 1;", 10);
            fault("doubt - not 1;", 8);
            fault("doubt -;", 7);
            fault("doubt (;", 7);
        });
    }

    /** An object with a BOTTLE of bars 1, odd 2, gap 1, year 50, made 9, sold 2, the price of which is an E. */
    private static int price(String e) {
        OldBottles x = new OldBottles();
        x.wine(50, 9, 123, 0);
        x.bottle(0, 0, 0);
        x.bottle(1, 0, 0);
        x.bottle(1, 0, 0);
        x.book(2, 0, 60, 99);
        x.sale(0, 12, 1, 1);
        x.sale(0, 34, 1, 1);
        x.sale(1, 12, 1, 1);
        due(Due.text(x, "doubt 0;price " + e + ";open 1;"), 1);
        due(x.force(1), 0);
        return x.told(0, 9);
    }

    private static void numbers() {
        S.hold("a NUMBER, a NAME, - ONE, ( E )", x -> {
            due(price("0"), 0);
            due(price("0009"), 9);
            due(price("0090"), 90);
            due(price("9999"), 9999);
            due(price("-0"), 0);
            due(price("5--5"), 10);
            due(price("-2*-3"), 6);
            due(price("-2+5"), 3);
            due(price("(1+2)*3"), 9);
            due(price("9-5-3"), 1);
            due(price("9-(5-3)"), 7);
            due(price("2+3*4"), 14);
            due(price("2*3+4"), 10);
            due(price("2*3-4*1"), 2);
            due(price("2*3*4"), 24);
        });
    }

    private static void truths() {
        S.hold("of or, and, not, <, = 1 or 0 (what is not 0 is true)", x -> {
            int[][] pairs = {{0, 0}, {0, 7}, {7, 0}, {7, 7}, {7, 8}, {1, 2}, {2, 1}, {1, 1}};
            for (int[] p : pairs) {
                due(price(p[0] + " or " + p[1]), p[0] != 0 || p[1] != 0 ? 1 : 0);
                due(price(p[0] + " and " + p[1]), p[0] != 0 && p[1] != 0 ? 1 : 0);
                due(price(p[0] + "<" + p[1]), p[0] < p[1] ? 1 : 0);
                due(price(p[0] + "=" + p[1]), p[0] == p[1] ? 1 : 0);
                due(price("not " + p[0]), p[0] == 0 ? 1 : 0);
                due(price("not not " + p[0]), p[0] == 0 ? 0 : 1);
            }
        });
        S.hold("(what is not 0 is true)", x -> {
            due(price("-1 or 0"), 1);
            due(price("0 or -7"), 1);
            due(price("-1 and -1"), 1);
            due(price("2 and 4"), 1);
            due(price("not -1"), 0);
            due(price("not (1-1)"), 1);
            due(price("-1<0"), 1);
            due(price("0<-1"), 0);
            due(price("-1=1"), 0);
            due(price("-2<-1"), 1);
        });
        S.hold("NOT: not NOT, or SUM, perhaps < or = and a SUM.", x -> {
            // not takes the whole comparison with it
            due(price("not 5=5"), 0);
            due(price("not 0<0"), 1);
            due(price("not 0+1"), 0);
            due(price("1+1=2"), 1);
            due(price("1<1+1"), 1);
        });
        S.hold("E: AND { or AND }. AND: NOT { and NOT }.", x -> {
            due(price("1 or 1 and 0"), 1);
            due(price("0 and 1 or 1"), 1);
            due(price("(1 or 1) and 0"), 0);
            due(price("not 0 and 0"), 0);
            due(price("not 1 or 1"), 1);
            due(price("0 or 0 or 3"), 1);
            due(price("1 and 2 and 0"), 0);
            due(price("0 and 0 and 1"), 0);
            due(price("1 or 0 or 0"), 1);
            due(price("0=0 and 1<2"), 1);
        });
    }

    private static void wrapping() {
        S.hold("An E is an int (32 bits, wrapping)", x -> {
            due(price(GREATEST), 9999);
            due(price("0<" + GREATEST), 1);
            due(price(GREATEST + "+1<0"), 1);
            due(price(GREATEST + "+1"), 0);
            due(price("0-" + "(" + GREATEST + ")-1<0"), 1);
            due(price("-(" + GREATEST + ")-2=" + GREATEST), 1);
            due(price("-(" + GREATEST + ")-2"), 9999);
            due(price("-(" + GREATEST + "+1)=" + GREATEST + "+1"), 1);
            // what is compared is not taken from one another
            due(price(GREATEST + "<-2"), 0);
            due(price("-2<" + GREATEST), 1);
            due(price(GREATEST + "+1<2"), 1);
            due(price("2<" + GREATEST + "+1"), 0);
            due(price(GREATEST + "+1=" + GREATEST), 0);
            due(price("256*256*256*256"), 0);
            due(price("256*256*256*256=0"), 1);
            due(price("256*256*256*256+7"), 7);
            due(price("256*256*256*128<0"), 1);
            due(price("not 256*256*256*256"), 1);
            due(price("0 or 256*256*256*256"), 0);
            due(price("256*256*256*255<0"), 1);
            due(price("256*256*256*127"), 9999);
            due(price("9999*9999*9999*9999*9999"), clamped(9999 * 9999 * 9999 * 9999 * 9999));
        });
    }

    private static int clamped(int v) {
        return Math.max(0, Math.min(9999, v));
    }

    private static void faults() {
        S.hold("FAULT: the place of the first byte of the first TOKEN that can't stand there", x -> {
            fault("  \n price 1;", 4);
            fault("doubt  \n odd  odd;", 14);
            fault("doubt 1;  price 2;  price 3;", 20);
            fault("doubt ) ) ?", 6);
            fault("doubt 1 1 12345 ?", 8);
        });
        S.hold("(the text's size, if it ends too early)", x -> {
            String[] early = {"", " ", "\n", "    ", "doubt", "doubt ", "doubt 1", "doubt 1  ", "doubt 1;", "doubt 1;\n",
                "doubt 1;price", "doubt 1;price 2", "doubt 1;price 2;", "doubt 1;price 2;open", "doubt 1;price 2;open 3",
                "doubt 1;price 2;open 3 \n", "doubt (", "doubt (1", "doubt (1 ", "doubt -", "doubt not", "doubt 1+",
                "doubt 1 or", "doubt 1 and ", "doubt 1<", "doubt 1*", "doubt ((((("};
            for (String e : early) {
                fault(e, e.length());
            }
        });
        S.hold("also of a byte that begins none, a WORD that is neither KEY nor NAME, a NUMBER that is too long", x -> {
            fault("doubt #;", 6);
            fault("doubt 1 #;", 8);
            fault("doubt odds;", 6);
            fault("doubt 1 odds;", 8);
            fault("doubt 12345;", 6);
            fault("doubt 1 12345;", 8);
            fault("doubt 1+x;", 8);
            fault("doubt 1+12345;", 8);
            fault("x", 0);
            fault("12345", 0);
            fault("doubt 1;price 2;open 3;x", 23);
            fault("doubt 1;price 2;open 3;12345", 23);
            fault("doubt 1;price 2;open 3;  7", 25);
        });
        S.hold("doubt, price, open, or, and, not are KEYS", x -> {
            for (String key : new String[] {"doubt", "price", "open", "or", "and"}) {
                fault("doubt " + key + ";", 6);
                fault("doubt 1+" + key + ";", 8);
                fault("doubt -" + key + ";", 7);
            }
            for (String name : new String[] {"bars", "odd", "gap", "year", "made", "sold"}) {
                good(name);
                fault(name + " 1;", 0);
                fault("doubt 1 " + name + " 2;", 8);
            }
        });
    }

    /** Of all TOKENS (and three that are none) just those may stand behind a text; the others are a FAULT there. */
    private static void stand(String behind, String those) {
        String all = "doubt price open or and not bars odd gap year made sold 1 0000 ( ) ; + - * < = x 12345 #";
        for (String token : all.split(" ")) {
            boolean stands = (" " + those + " ").contains(" " + token + " ");
            if (stands && token.equals(";") && behind.contains("open")) {
                due(read(behind + token), 1);
                continue;
            }
            fault(behind + token, stands ? behind.length() + token.length() : behind.length());
            // with a blank between, when it can be seen where the one ends and the other begins
            fault(behind + " " + token, behind.length() + 1 + (stands ? token.length() : 0));
        }
    }

    private static void places() {
        String ones = "bars odd gap year made sold 1 0000", parts = ones + " - (", begins = parts + " not";
        String compared = "or and + - *", follows = compared + " < =";
        S.hold("the first TOKEN that can't stand there (the text's size, if it ends too early)", x -> {
            stand(" ", "doubt");
            stand("doubt 1;", "price");
            stand("doubt 1;price 2;", "open");
            for (String key : new String[] {"doubt ", "doubt 1;price ", "doubt 1;price 2;open "}) {
                stand(key, begins);
                stand(key + "odd ", follows + " ;");
            }
            // the last ; is the end of a TEXT that can stand, behind which nothing does
            due(read(PLAIN), 1);
            stand(PLAIN, "");
            stand(PLAIN + " ", "");
        });
        S.hold("NOT: not NOT, or SUM, perhaps < or = and a SUM.", x -> {
            for (String sign : new String[] {" or ", " and "}) {
                stand("doubt 1" + sign, begins);
                stand("doubt 1" + sign + "odd ", follows + " ;");
            }
            stand("doubt not ", begins);
            stand("doubt not 1 ", follows + " ;");
            for (String sign : new String[] {"<", "="}) {
                stand("doubt 1" + sign, parts);
                stand("doubt 1" + sign + "odd ", compared + " ;");
                stand("doubt not 1" + sign + "odd ", compared + " ;");
                stand("doubt (1" + sign + "odd ", compared + " )");
                stand("doubt (1" + sign + "odd)", follows + " ;");
            }
        });
        S.hold("SUM: TERM { + or - TERM }. TERM: ONE { * ONE }. ONE: a NUMBER, a NAME, - ONE, ( E ).", x -> {
            for (String sign : new String[] {"+", "-", "*"}) {
                stand("doubt 1" + sign, parts);
                stand("doubt 1" + sign + "odd ", follows + " ;");
                stand("doubt 1<2" + sign + "odd ", compared + " ;");
            }
            stand("doubt -", parts);
            stand("doubt -odd ", follows + " ;");
            stand("doubt (", begins);
            stand("doubt (odd ", follows + " )");
            stand("doubt (odd)", follows + " ;");
            stand("doubt ((odd)", follows + " )");
        });
        S.hold("a ( , a not, a - ahead of a ONE while 5 of these are open", x -> {
            for (String five : new String[] {"(((((", "-----", "not not not not not ", "not(not(-", "-(-(-", "((not not("}) {
                stand("doubt " + five, ones);
            }
            for (String four : new String[] {"((((", "((not not "}) {
                stand("doubt " + four, begins);
            }
            stand("doubt ----", parts);
            stand("doubt (((((odd ", follows + " )");
            stand("doubt (((((1<odd ", compared + " )");
            stand("doubt (((((1 or ", ones);
            stand("doubt (((((1+", ones);
            stand("doubt (((((1)", follows + " )");
            stand("doubt (((((1)+", parts);
            stand("doubt (((((1)or ", begins);
        });
    }

    private static void openOnes() {
        S.hold("a ( , a not, a - ahead of a ONE while 5 of these are open", x -> {
            good("(((((1)))))");
            good("-----1");
            good("not not not not not 1");
            good("not(not(-1))");
            good("not not(-(1))");
            fault("doubt not not(-(-1));", 16);
            good("(((((1-1)))))");
            good("-----1-1");
            fault("doubt ((((((1))))));", 11);
            fault("doubt ------1;", 11);
            fault("doubt not not not not not not 1;", 26);
            fault("doubt (((((-1)))));", 11);
            fault("doubt (((((not 1)))));", 11);
            fault("doubt -----(1);", 11);
            fault("doubt not not not not not -1;", 26);
            fault("doubt not not not not not(1);", 25);
            fault("doubt not(not((-(1))));", 15);
            fault("doubt (((((1- -1)))));", 14);
            fault("doubt (((((1+(1))))));", 13);
            fault("doubt (((((1 or not 1)))));", 16);
            fault("doubt (((((1 and not 1)))));", 17);
        });
        S.hold("(a ( till its ) , not and - till what they belong to ends)", x -> {
            good("(((((1)))))+(((((1)))))");
            good("(((((1))))+((((1)))))");
            good("-----1+-----1");
            good("-----1*-----1");
            good("-----1<-----1");
            good("not not not not not 1 or not not not not not 1");
            good("not not not not not 1 and not not not not not 1");
            good("not not not not(1)+(1)<(1)*(1)");
            good("-1*-1*-1*-1*-1*-1*-1");
            good("-1-1--1-1--1-1--1-1--1");
            good("(1)+(1)+(1)+(1)+(1)+(1)+(1)");
            good("((((-1))))-((((-1))))");
            good("((((-1-1))))");
            good("((((-1*(1)))))");
            good("-(((-1)))*(((((1)))))");
            // a not is open till the end of its sum or comparison, a - for its ONE alone
            fault("doubt not not not not not 1<-1;", 28);
            fault("doubt not not not not not 1+(1);", 28);
            fault("doubt not not not not not 1*-1;", 28);
            fault("doubt not not not not not 1=1-(1);", 30);
            fault("doubt ((((not 1+(1)))));", 16);
            fault("doubt ((((not 1<-1))));", 16);
            good("((((not 1 or -1))))");
            // what has ended is open no more, under one that still is
            good("(not 1 or not 1 or not 1 or not 1 or not 1 or not 1)");
            good("((1)+(1)+(1)+(1)+(1)+(1)+(1))");
            good("(-1-1-(-1)+-1*-1-(-1)+-1*-1)");
            good("not(1)+(1)+(1)+(1)+(1)+(1)+(1)");
            good("not -1+-1+-1+-1+-1+-1+-1");
            good("-(-1+-1+-1+-1+-1+-1+-1)");
            good("-(not 1 and not 1 and not 1 and not 1)");
            good("((not(1)and not(1)and not(1)or not(1)))");
            good("((-(1)-(1)+-(1)-(1)*-(1)+-(1)))");
            good("((((not 1 and(1)))))");
        });
    }

    private static void names() {
        S.hold("Of a BOTTLE: bars: PARTS that bar it; odd: PARTS that are; gap: its GAP; year: of its WINE; made: of its WINE;"
                + " sold: how many BOTTLES of its WINE were SOLD at least once.", x -> {
            due(price("bars"), 1);
            due(price("odd"), 2);
            due(price("gap"), 1);
            due(price("year"), 50);
            due(price("made"), 9);
            due(price("sold"), 2);
        });
        S.hold("sold: how many BOTTLES of its WINE were SOLD at least once", x -> {
            x.wine(1, 1, 0, 0);
            x.wine(2, 2, 0, 0);
            for (int i = 0; i < 24; i++) {
                x.bottle(0, i < 20 ? 1 : 10, 0);
            }
            Due.text(x, "doubt 0;price sold;open year;");
            x.force(1);
            due(x.told(0, 9), 0);
            for (int i = 0; i < 20; i++) {
                x.sale(i, 12, 1, 1);
                due(x.told(i, 9), i + 1);
            }
            x.sale(0, 21, 1, 1);
            due(x.told(1, 9), 20);
            due(x.told(20, 9), 0);
            x.sale(23, 12, 1, 1);
            due(x.told(20, 9), 1);
            due(x.told(0, 10), 1);
            due(x.told(23, 10), 2);
        });
        S.hold("bars: PARTS that bar it; odd: PARTS that are", x -> {
            x.wine(50, 0, 0, 0);
            x.bottle(1, 0, 0);
            x.bottle(0, 0, 111);
            Due.text(x, "doubt bars;price odd;open 1;");
            x.force(1);
            for (int part = 0; part < 3; part++) {
                due(x.told(1, 8), part);
                due(x.told(1, 9), 3 - part);
                x.book(part, 1, 0, 49);
            }
            due(x.told(1, 8), 3);
            due(x.told(1, 9), 0);
            // barred as none was MADE, but by no PART
            due(x.told(0, 4), 1);
            due(x.told(0, 8), 0);
        });
        S.hold("gap: its GAP", x -> {
            x.wine(50, 1, 0, 0);
            x.bottle(0, 0, 0);
            Due.text(x, "doubt gap;price gap;open 1+gap;");
            x.force(1);
            for (int i = 0; i < FORTY; i++) {
                x.sale(0, 12, 1, 1);
                due(x.told(0, 9), i);
            }
            due(x.told(0, 8), 39);
            due(x.told(0, 10), 40);
        });
    }

    private static void clause(int clause, int least, int most) {
        int[] values = {-10000, -1000, -100, -2, -1, 0, 1, 2, 50, 98, 99, 100, 998, 999, 1000, 9998, 9999, 10000, 19998};
        String[] keys = {"doubt ", "price ", "open "};
        for (int v : values) {
            OldBottles x = new OldBottles();
            x.wine(1, 1, 0, 0);
            x.bottle(0, 0, 0);
            String e = v < -9999 ? "-9999-" + (-v - 9999) : v > 9999 ? "9999+" + (v - 9999) : "" + v;
            StringBuilder text = new StringBuilder();
            for (int i = 0; i < 3; i++) {
                text.append(keys[i]).append(i == clause ? e : "7").append(";");
            }
            due(Due.text(x, text.toString()), 1);
            x.force(1);
            for (int i = 0; i < 3; i++) {
                due(x.told(0, 8 + i), i == clause ? Math.max(least, Math.min(most, v)) : 7);
            }
        }
    }

    private static void clauses() {
        S.hold("doubt: how much it is doubted (0 .. 99, else the bound)", x -> clause(0, 0, 99));
        S.hold("price: what it is worth (0 .. 9999, else the bound)", x -> clause(1, 0, 9999));
        S.hold("open: what it costs to open it (1 .. 999, else the bound)", x -> clause(2, 1, 999));
    }

    private static void theRule() {
        S.hold("TEXT 0, at first THE RULE, is:"
                + " doubt bars * 20 + odd * 5 + gap ; price made - sold * 2 + 100 ; open 10 + odd ;", x -> {
            x.wine(50, 0, 0, 0);
            x.wine(50, 999, 0, 0);
            x.bottle(0, 0, 111);
            x.bottle(0, 0, 0);
            x.bottle(0, 10, 110);
            int[][] due = {{15, 100, 13}, {0, 100, 10}, {10, 1099, 12}};
            for (int bottle = 0; bottle < 3; bottle++) {
                for (int i = 0; i < 3; i++) {
                    due(x.told(bottle, 8 + i), due[bottle][i]);
                }
            }
            x.book(0, 1, 0, 49);
            due(x.told(0, 8), 30);
            due(x.told(0, 10), 12);
            x.book(1, 1, 0, 49);
            x.book(2, 1, 0, 49);
            due(x.told(0, 8), 60);
            due(x.told(0, 10), 10);
            x.sale(0, 12, 1, 1);
            x.sale(1, 12, 1, 1);
            due(x.told(0, 9), 96);
            for (int i = 2; i < FORTY; i++) {
                x.sale(0, 12, 1, 1);
            }
            due(x.told(0, 8), 98);
        });
        S.hold("TEXT 0, at first THE RULE", x -> {
            // bars 3 and 39 gaps are just the bound
            x.wine(50, 0, 0, 0);
            x.bottle(0, 0, 111);
            for (int part = 0; part < 3; part++) {
                x.book(part, 1, 51, 99);
            }
            for (int i = 0; i < FORTY; i++) {
                x.sale(0, 12, 1, 1);
                due(x.told(0, 8), 60 + i);
            }
        });
    }

    private static void force() {
        S.hold("A TEXT is THE RULE: which was. BAD.", x -> {
            S.refused(BAD, Sentences.beyond(0, 0), v -> x.force(v));
            due(x.force(0), 0);
            x.wine(1, 1, 0, 0);
            x.bottle(0, 0, 0);
            for (int i = 1; i < 6; i++) {
                due(x.force(i), BAD);
                Due.text(x, "doubt " + i + ";price 10*" + i + ";open 20*" + i + ";");
            }
            due(x.count(5), 0);
            due(x.told(0, 8), 0);
            int[] order = {5, 1, 4, 2, 2, 3, 0};
            int was = 0;
            for (int i : order) {
                due(x.force(i), was);
                due(x.count(5), i);
                due(x.told(0, 8), i);
                due(x.told(0, 9), i == 0 ? 101 : 10 * i);
                due(x.told(0, 10), i == 0 ? 10 : 20 * i);
                was = i;
            }
            x.force(3);
            S.refused(BAD, Sentences.beyond(0, 5), v -> x.force(v));
            due(x.count(5), 3);
            due(x.told(0, 8), 3);
        });
        S.hold("by a FAULT, too", x -> {
            // a FAULT leaves THE RULE as it is
            x.wine(1, 1, 0, 0);
            x.bottle(0, 0, 0);
            Due.text(x, "doubt 5;price 6;open 7;");
            x.force(1);
            due(Due.text(x, "doubt 8;price 9;open ;"), -121);
            due(x.force(2), BAD);
            due(x.count(5), 1);
            due(x.told(0, 8), 5);
            due(x.told(0, 9), 6);
            due(x.told(0, 10), 7);
        });
    }
}
