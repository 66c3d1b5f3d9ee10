/** The boundaries that the document names for all calls at once, a test for each sentence. */
public final class TermsEdgeTest {
    private static final int BAD = OldBottles.BAD, FULL = OldBottles.FULL;
    private static final long NO = OldBottles.NO;
    private static final int GREATEST = Integer.MAX_VALUE, LEAST = Integer.MIN_VALUE;
    /** How many calls some() and seen() make. */
    private static final int SOME = 29, SEEN = 141;
    private static final Sentences S = new Sentences("TermsEdgeTest");

    public static void main(String[] args) {
        changeNothing();
        fullOnesChangeNothing();
        asking();
        quotients();
        calls();
        S.end();
    }

    private static void due(long got, long want) {
        S.due(got, want);
    }

    /** Something of all that there is, with every number told from the others where it can be. */
    private static void some(OldBottles x) {
        x.wine(50, 9, 123, 102030);
        x.wine(60, 0, 321, 405060);
        x.bottle(2, 1, 311);
        x.bottle(1, 10, 200);
        x.bottle(4, 0, 31);
        x.book(0, 3, 40, 49);
        x.book(2, 1, 10, 55);
        x.test(0, 20);
        x.sale(0, 12, 100, 30);
        x.sale(1, 23, 70, 20);
        x.sale(0, 43, 5, 30);
        x.drunk(0, 4);
        Due.text(x, "doubt odd*7+gap;price year*9+sold;open made+2;");
        x.force(1);
        x.image();
        x.sale(0, 31, 8, 31);
        x.drunk(0, 5);
        x.said(0, 0, 0, 1);
        x.said(0, 0, 1, 0);
        x.feed(3, 'x');
        x.sheet(0, 2, 8);
        x.cell(0, 1, 12);
        x.sheet(1, 1, 4);
    }

    /** What can be told of it without a change. */
    private static long[] seen(OldBottles x) {
        long[] all = new long[SEEN];
        int n = 0;
        for (int what = 0; what < 8; what++) {
            all[n++] = x.count(what);
        }
        for (int bottle = 0; bottle < 4; bottle++) {
            for (int what = 0; what < 11; what++) {
                all[n++] = x.told(bottle, what);
            }
            for (int which = 0; which < 6; which++) {
                all[n++] = x.shows(bottle, which);
            }
            all[n++] = x.chain(bottle);
            all[n++] = x.falls(bottle, 100);
            all[n++] = x.odds(bottle, 0);
            all[n++] = x.saw(bottle);
        }
        for (int hand = 0; hand < 10; hand++) {
            all[n++] = x.source(hand, 0);
            all[n++] = x.source(hand, 1);
            all[n++] = x.owed(hand);
        }
        for (int what = 0; what < 3; what++) {
            all[n++] = x.left(0, what);
            all[n++] = x.left(1, what);
            all[n++] = x.opened(30, what);
        }
        for (int what = 0; what < 4; what++) {
            all[n++] = x.tongue(0, what);
            all[n++] = x.tongue(1, what);
        }
        all[n++] = x.mix(0, 1, 0, 1);
        all[n++] = x.worst();
        return all;
    }

    private static void alike(long[] now, long[] was) {
        for (int i = 0; i < was.length; i++) {
            due(now[i], was[i]);
        }
    }

    private static void changeNothing() {
        S.hold("they change nothing: BAD (-2: a number is none such or not as told)", x -> {
            some(x);
            long[] was = seen(x);
            int[] bad = {x.wine(100, 5, 0, 0), x.wine(5, 5, 444, 0), x.drunk(2, 1), x.drunk(0, 1000), x.book(0, 3, 9, 8),
                x.book(0, 4, 0, 9), x.book(3, 0, 0, 9), x.book(2, 1, 0, 100), x.test(0, 101), x.test(3, 1), x.bottle(6, 0, 0),
                x.bottle(0, 2, 0), x.shows(3, 0), x.sale(0, 11, 1, 99), x.sale(0, 12, 1, 30), x.sale(0, 12, 10000, 99),
                x.sale(3, 12, 1, 99), x.feed(0, 1), x.feed(9, 1), x.force(2), x.force(-1), x.left(2, 0), x.left(0, 3),
                x.source(10, 0), x.source(0, 2), x.mix(0, 0, 1, 0), x.mix(0, 1, 2, 0), x.said(6, 0, 0, 0), x.said(0, 3, 0, 0),
                x.said(0, 0, 2, 0), x.said(0, 0, 1, 2), x.tongue(6, 0), x.tongue(0, 4), x.opened(1000, 0), x.opened(0, 3),
                x.chain(3), x.saw(4), x.count(8), x.sheet(4, 0, 1), x.sheet(0, 3, 1), x.sheet(0, 0, 41), x.cell(4, 0, 1),
                x.copy(0, 0, 4, 0, 1), x.sales(0, 2, 0, 11), x.sales(0, 3, 0, 1), x.taken(0, 6)};
            for (int b : bad) {
                due(b, BAD);
            }
            due(x.told(3, 0), -5);
            due(x.told(0, 11), -5);
            due(x.odds(3, 0), NO);
            due(x.owed(10), NO);
            due(x.falls(0, 101), NO);
            alike(seen(x), was);
            due(x.test(0, 20), 20);
            due(x.back(), 3);
        });
        S.hold("the host's: -11 nothing where something is asked, -12 a place outside, -13 a thing of another sort or KIND,"
                + " -14 a size below 0.", x -> {
            some(x);
            long[] was = seen(x);
            due(x.cell(2, 0, 1), -11);
            due(x.copy(0, 0, 2, 0, 1), -11);
            due(x.copy(2, 0, 0, 0, 1), -11);
            due(x.sales(2, 0, 0, 1), -11);
            due(x.taken(3, 0), -11);
            due(x.cell(0, 8, 1), -12);
            due(x.copy(0, 0, 0, 5, 4), -12);
            due(x.sales(0, 2, 5, 1), -12);
            due(x.copy(0, 0, 1, 0, 4), -13);
            due(x.sales(0, 1, 0, 1), -13);
            due(x.taken(0, 1), -13);
            due(x.sheet(0, 1, -1), -14);
            due(x.sheet(3, 0, LEAST), -14);
            alike(seen(x), was);
            // SHEET 0 is still the row that it was, and SHEET 3 missing
            due(x.cell(3, 0, 0), -11);
            due(x.cell(0, 7, 50), 1);
            due(x.cell(0, 3, 99), 1);
            due(x.sales(0, 2, 0, 1), 1);
            due(x.told(0, 7), 2);
        });
        S.hold("STATE: there is none.", x -> {
            x.wine(50, 9, 123, 102030);
            x.drunk(0, 3);
            x.bottle(0, 0, 0);
            x.bottle(0, 0, 0);
            x.sale(1, 12, 3, 3);
            x.book(0, 0, 5, 6);
            x.test(0, 9);
            long[] was = seen(x);
            due(x.back(), OldBottles.STATE);
            alike(seen(x), was);
            due(x.test(0, 9), 9);
        });
    }

    private static void fullOnesChangeNothing() {
        S.hold("Refusals, the first that the call's words name; they change nothing: BAD (-2: a number is none such or not as"
                + " told), STATE (-3), FULL (-4)", x -> {
            some(x);
            for (int i = 2; i < 8; i++) {
                x.wine(5, 5, 0, 0);
            }
            for (int i = 3; i < 24; i++) {
                x.bottle(0, 0, 0);
            }
            for (int i = 4; i < 40; i++) {
                x.sale(2, 56, 1, 1);
            }
            for (int i = 2; i < 6; i++) {
                // what stood on THE TAPE, the first time an x, is a FAULT
                due(x.text(), -100);
                due(Due.text(x, "doubt 1;price 1;open 1;"), i);
            }
            for (int i = 2; i < 12; i++) {
                x.said(0, 1, 0, 0);
            }
            for (int i = 0; i < 19; i++) {
                x.feed(8, 0);
            }
            due(x.count(4), 152);
            x.feed(1, 0);
            long[] was = seen(x);
            due(x.wine(1, 1, 0, 0), FULL);
            due(x.bottle(0, 0, 0), FULL);
            due(x.sale(0, 89, 9, 99), FULL);
            due(x.sale(23, 89, 9, 99), FULL);
            due(x.feed(8, -1), FULL);
            due(x.text(), FULL);
            due(x.said(0, 0, 0, 1), FULL);
            due(x.said(0, 0, 1, 0), FULL);
            // with a number that is none such as well, that comes first
            due(x.wine(-1, 1, 0, 0), BAD);
            due(x.bottle(0, 80, 0), BAD);
            due(x.sale(24, 89, 9, 99), BAD);
            due(x.feed(-1, -1), BAD);
            due(x.said(0, 24, 0, 1), BAD);
            alike(seen(x), was);
        });
    }

    private static void asking() {
        S.hold("they change nothing", x -> {
            // asking changes nothing, however often
            some(x);
            long[] was = seen(x);
            alike(seen(x), was);
            x.taken(0, 0);
            x.image();
            alike(seen(x), was);
            due(x.back(), 4);
            due(x.drunk(0, 5), 5);
        });
    }

    private static void quotients() {
        S.hold("Quotients are cut toward 0.", x -> {
            x.wine(1, 9, 0, 990199);
            x.wine(1, 9, 0, 980000);
            x.bottle(4, 1, 0);
            due(x.shows(0, 3), 98);
            due(x.shows(0, 4), 0);
            due(x.shows(0, 5), 49);
            // price 109
            due(x.falls(0, 1), 1);
            due(x.falls(0, 99), 107);
            due(x.falls(0, 50), 54);
            x.wine(1, 9, 0, 970000);
            // tenths of 99 and 98: 98 from k 0 till 9
            due(x.mix(0, 1, 1, 0), 0);
            due(x.mix(0, 1, 2, 1), 1);
            // tenths of 98 and 99: 98 from k 1 on
            x.wine(1, 9, 0, 990000);
            x.wine(1, 9, 0, 980000);
            due(x.mix(4, 3, 1, 0), 1);
            due(x.mix(3, 4, 3, 0), 10);
        });
    }

    private static void calls() {
        S.hold("An object is used for at most 512 calls after it has been made", x -> {
            // the last of them is answered as the first was
            some(x);
            long[] was = seen(x);
            for (int made = SOME + SEEN; made < 510; made++) {
                due(x.opened(GREATEST, 0), BAD);
            }
            due(x.told(0, 8), was[16]);
            due(x.back(), 3);
        });
        S.hold("An object is used for at most 512 calls", x -> {
            x.wine(1, 0, 0, 0);
            x.bottle(0, 0, 0);
            due(x.count(2), 0);
            x.image();
            for (int made = 4; made < 512; made += 2) {
                due(x.sale(0, 12, 7, made % 100), 0);
                due(made == 510 ? x.owed(2) : x.back(), made == 510 ? 7 : 0);
            }
        });
        S.hold("An object is used for at most 512 calls", x -> {
            // TEXTS that can't be read use nothing up
            for (int i = 0; i < 255; i++) {
                due(x.feed(8, 0x2b20746275_6f64L), 8);
                due(x.text(), -106);
            }
            due(x.count(3), 1);
            due(x.count(4), 0);
        });
    }
}
