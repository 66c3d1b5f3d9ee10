/** The boundaries that the document names of promises 1 to 8, a test for each sentence. */
public final class WinesEdgeTest {
    private static final int BAD = OldBottles.BAD, FULL = OldBottles.FULL, NONE = OldBottles.NONE, NONE_SUCH = -5;
    /** No three digits of 0 .. 3. */
    private static final int[] NO_PARTS = {4, 5, 9, 14, 34, 39, 40, 43, 49, 90, 140, 304, 334, 340, 343, 390, 400, 403, 430,
        433, 444, 900, 999, 1000, 1003, 1333, 3333, 65536, 65869, -1, -3, -10, -11, -100, -111, -333, -65536,
        Integer.MIN_VALUE, Integer.MIN_VALUE + 111, Integer.MAX_VALUE, Integer.MAX_VALUE - 444};
    private static final Sentences S = new Sentences("WinesEdgeTest");

    public static void main(String[] args) {
        newObject();
        wine();
        drunk();
        book();
        bookYears();
        test();
        bottle();
        bottleNumbers();
        told();
        toldOfParts();
        toldOfNoneMade();
        shows();
        tastes();
        S.end();
    }

    private static void due(long got, long want) {
        S.due(got, want);
    }

    private static void newObject() {
        S.hold("`OldBottles()`: No WINES.", x -> {
            due(x.count(0), 0);
            due(x.drunk(0, 0), BAD);
            due(x.left(0, 0), BAD);
            due(x.bottle(0, 0, 0), BAD);
            due(x.mix(0, 1, 0, 0), BAD);
            due(x.count(1), 0);
            due(x.count(2), 0);
            due(x.count(4), 0);
            due(x.count(6), 0);
            due(x.count(7), 0);
            due(x.told(0, 0), NONE_SUCH);
            due(x.shows(0, 0), BAD);
            due(x.sale(0, 12, 0, 0), BAD);
            due(x.odds(0, 0), OldBottles.NO);
            due(x.said(0, 0, 0, 0), BAD);
            due(x.falls(0, 0), OldBottles.NO);
            due(x.saw(0), BAD);
            due(x.chain(0), BAD);
            due(x.taken(0, 0), -11);
        });
        S.hold("`OldBottles()`: No WINES.", x -> {
            x.wine(1, 1, 111, 0);
            x.bottle(0, 0, 0);
            x.sale(0, 12, 1, 1);
            x.book(0, 0, 9, 9);
            x.test(0, 5);
            x.feed(1, 'd');
            x.said(0, 0, 0, 0);
            x.sheet(0, 0, 4);
            x.image();
            OldBottles other = new OldBottles();
            for (int what = 0; what < 8; what++) {
                due(other.count(what), what == 3 ? 1 : 0);
            }
            due(other.test(0, 7), 100);
            due(other.back(), OldBottles.STATE);
            due(other.cell(0, 0, 0), -11);
            due(other.tongue(0, 1), 0);
            due(other.wine(1, 1, 0, 0), 0);
            due(other.bottle(0, 0, 0), 0);
            due(other.told(0, 2), 0);
            due(x.count(2), 1);
        });
        S.hold("There are 6 TEXTS at most, TEXT 0 with them.", x -> {
            due(x.count(3), 1);
            due(x.count(5), 0);
            due(x.force(1), BAD);
            due(x.force(0), 0);
        });
        S.hold("NO, where a long is answered, -4611686018427387904", x -> {
            due(OldBottles.NO, -(1L << 62));
            due(OldBottles.NONE, -1);
            due(OldBottles.BAD, -2);
            due(OldBottles.STATE, -3);
            due(OldBottles.FULL, -4);
        });
    }

    private static void wine() {
        S.hold("WINES (8 at most, numbered from 0)", x -> {
            for (int i = 0; i < 8; i++) {
                due(x.wine(i, 10 + i, 0, 0), i);
            }
            due(x.count(0), 8);
            due(x.wine(8, 8, 0, 0), FULL);
            due(x.count(0), 8);
            due(x.left(8, 0), BAD);
            for (int i = 0; i < 8; i++) {
                due(x.left(i, 0), 10 + i);
            }
        });
        S.hold("a YEAR (0 .. 99)", x -> {
            S.refused(BAD, Sentences.beyond(0, 99), v -> x.wine(v, 1, 0, 0));
            due(x.wine(0, 1, 0, 0), 0);
            due(x.wine(99, 1, 0, 0), 1);
            due(x.count(0), 2);
        });
        S.hold("MADE (0 .. 999 bottles)", x -> {
            S.refused(BAD, Sentences.beyond(0, 999), v -> x.wine(1, v, 0, 0));
            due(x.wine(1, 0, 0, 0), 0);
            due(x.wine(1, 999, 0, 0), 1);
            due(x.left(0, 0), 0);
            due(x.left(1, 0), 999);
            due(x.count(0), 2);
        });
        S.hold("what its GLASS, PAPER, CORK are (0 .. 3 each; PARTS 0, 1, 2)", x -> {
            S.refused(BAD, NO_PARTS, v -> x.wine(1, 1, v, 0));
            due(x.count(0), 0);
            int[] parts = {0, 3, 30, 300, 333, 123, 321, 203};
            int[][] each = {{0, 0, 0}, {0, 0, 3}, {0, 3, 0}, {3, 0, 0}, {3, 3, 3}, {1, 2, 3}, {3, 2, 1}, {2, 0, 3}};
            for (int i = 0; i < 8; i++) {
                due(x.wine(1, 1, parts[i], 0), i);
                due(x.bottle(1, 11 * i, 0), i);
                for (int part = 0; part < 3; part++) {
                    due(x.shows(i, part), each[i][part]);
                }
            }
        });
        S.hold("a TASTE of three numbers (0 .. 99)", x -> {
            S.refused(BAD, Sentences.beyond(0, 999999), v -> x.wine(1, 1, 0, v));
            due(x.count(0), 0);
            int[] tastes = {0, 999999, 990000, 9900, 99, 10203, 100, 9999};
            int[][] each = {{0, 0, 0}, {99, 99, 99}, {99, 0, 0}, {0, 99, 0}, {0, 0, 99}, {1, 2, 3}, {0, 1, 0}, {0, 99, 99}};
            for (int i = 0; i < 8; i++) {
                due(x.wine(1, 1, 0, tastes[i]), i);
                due(x.bottle(0, 11 * i, 0), i);
                for (int k = 0; k < 3; k++) {
                    due(x.shows(i, 3 + k), each[i][k]);
                }
            }
        });
        S.hold("and the third number): its number. BAD; FULL.", x -> {
            for (int i = 0; i < 8; i++) {
                x.wine(1, 1, 0, 0);
            }
            due(x.wine(1, 1, 0, 0), FULL);
            due(x.wine(100, 1, 0, 0), BAD);
            due(x.wine(1, 1000, 0, 0), BAD);
            due(x.wine(1, 1, 400, 0), BAD);
            due(x.wine(1, 1, 0, -1), BAD);
            due(x.count(0), 8);
        });
    }

    private static void drunk() {
        S.hold("DRUNK (0 .. 999)", x -> {
            x.wine(1, 999, 0, 0);
            S.refused(BAD, Sentences.beyond(0, 999), v -> x.drunk(0, v));
            due(x.left(0, 0), 999);
            due(x.drunk(0, 999), 0);
            due(x.left(0, 0), 0);
            due(x.drunk(0, 0), 999);
            due(x.left(0, 0), 999);
        });
        S.hold("DRUNK of a WINE becomes v: what it was. BAD.", x -> {
            due(x.drunk(0, 1), BAD);
            x.wine(1, 9, 0, 0);
            due(x.drunk(1, 1), BAD);
            x.wine(1, 9, 0, 0);
            S.refused(BAD, Sentences.beyond(0, 1), v -> x.drunk(v, 1));
            due(x.drunk(0, 4), 0);
            due(x.drunk(1, 5), 0);
            due(x.drunk(0, 1000), BAD);
            due(x.drunk(0, 6), 4);
            due(x.drunk(0, 6), 6);
            due(x.drunk(1, 5), 5);
        });
        S.hold("DRUNK of a WINE becomes v: what it was.", x -> {
            // nothing bars what is more than was MADE
            x.wine(1, 3, 0, 0);
            due(x.drunk(0, 4), 0);
            due(x.drunk(0, 0), 4);
        });
    }

    /** Four WINES of a year, the n-th of which has all PARTS n, and a TRUE BOTTLE of each. */
    private static void fourSorts(OldBottles x, int year) {
        for (int n = 0; n < 4; n++) {
            int wine = x.wine(year, 9, 111 * n, 0);
            x.bottle(1, 11 * wine, 0);
        }
    }

    private static void book() {
        S.hold("from which YEAR till which it was used (0 .. 99 at first)", x -> {
            fourSorts(x, 0);
            fourSorts(x, 99);
            for (int bottle = 0; bottle < 8; bottle++) {
                due(x.told(bottle, 2), 0);
                due(x.told(bottle, 4), 0);
            }
        });
        S.hold("THE BOOK: of each PART and each of its 0 .. 3", x -> {
            fourSorts(x, 50);
            for (int part = 0; part < 3; part++) {
                for (int which = 0; which < 4; which++) {
                    due(x.book(part, which, 51, 99), 1);
                    for (int bottle = 0; bottle < 4; bottle++) {
                        due(x.told(bottle, 2), bottle == which ? 1 << part : 0);
                    }
                    due(x.book(part, which, 0, 99), 1);
                }
            }
        });
        S.hold("a PART's 0 .. 3 was used from a YEAR till another one (not ahead of it): 1. BAD.", x -> {
            fourSorts(x, 50);
            S.refused(BAD, Sentences.beyond(0, 2), v -> x.book(v, 0, 0, 0));
            S.refused(BAD, Sentences.beyond(0, 3), v -> x.book(0, v, 0, 0));
            S.refused(BAD, Sentences.beyond(0, 3), v -> x.book(2, v, 0, 0));
            S.refused(BAD, Sentences.beyond(0, 99), v -> x.book(0, 0, v, 99));
            S.refused(BAD, Sentences.beyond(0, 99), v -> x.book(0, 0, 0, v));
            S.refused(BAD, Sentences.beyond(0, 99), v -> x.book(0, 0, v, v));
            due(x.book(0, 0, 50, 49), BAD);
            due(x.book(0, 0, 1, 0), BAD);
            due(x.book(0, 0, 99, 98), BAD);
            due(x.book(0, 0, 99, 0), BAD);
            for (int bottle = 0; bottle < 4; bottle++) {
                due(x.told(bottle, 2), 0);
            }
        });
        S.hold("till another one (not ahead of it)", x -> {
            fourSorts(x, 50);
            due(x.book(0, 0, 50, 50), 1);
            due(x.told(0, 2), 0);
            due(x.book(0, 0, 0, 0), 1);
            due(x.told(0, 2), 1);
            due(x.book(0, 0, 99, 99), 1);
            due(x.told(0, 2), 1);
            due(x.book(0, 0, 50, 49), BAD);
            due(x.told(0, 2), 1);
            due(x.book(0, 0, 0, 99), 1);
            due(x.told(0, 2), 0);
        });
    }

    private static void bookYears() {
        S.hold("A PART BARS a BOTTLE, if what it SHOWS was not used in the YEAR of the WINE that it is said to be"
                + " (by THE BOOK)", x -> {
            int[] years = {0, 1, 50, 98, 99};
            for (int i = 0; i < years.length; i++) {
                x.wine(years[i], 9, 0, 0);
                x.bottle(1, 11 * i, 0);
            }
            int[][] books = {{0, 0}, {0, 1}, {1, 50}, {1, 98}, {50, 50}, {49, 51}, {51, 97}, {98, 98}, {98, 99}, {99, 99}};
            for (int[] b : books) {
                for (int part = 0; part < 3; part++) {
                    x.book(part, 0, b[0], b[1]);
                    for (int i = 0; i < years.length; i++) {
                        due(x.told(i, 2) >> part & 1, years[i] < b[0] || years[i] > b[1] ? 1 : 0);
                    }
                }
            }
        });
        S.hold("the YEAR of the WINE that it is said to be", x -> {
            x.wine(10, 9, 0, 0);
            x.wine(20, 9, 0, 0);
            x.bottle(0, 1, 0);
            x.bottle(0, 10, 0);
            x.book(1, 0, 20, 20);
            due(x.told(0, 2), 2);
            due(x.told(1, 2), 0);
            x.book(1, 0, 10, 10);
            due(x.told(0, 2), 0);
            due(x.told(1, 2), 2);
        });
    }

    private static void test() {
        S.hold("From which YEAR a PART can be tested (0 .. 100): what was. BAD.", x -> {
            S.refused(BAD, Sentences.beyond(0, 2), v -> x.test(v, 5));
            S.refused(BAD, Sentences.beyond(0, 100), v -> x.test(0, v));
            S.refused(BAD, Sentences.beyond(0, 100), v -> x.test(2, v));
            for (int part = 0; part < 3; part++) {
                due(x.test(part, 0), 100);
                due(x.test(part, 101), BAD);
                due(x.test(part, 100), 0);
                due(x.test(part, 99), 100);
                due(x.test(part, 10 + part), 99);
            }
            for (int part = 0; part < 3; part++) {
                due(x.test(part, 50), 10 + part);
            }
        });
    }

    private static void bottle() {
        S.hold("BOTTLES (24 at most, numbered from 0)", x -> {
            x.wine(1, 9, 0, 0);
            for (int i = 0; i < 24; i++) {
                due(x.bottle(i % 6, 0, i % 4), i);
            }
            due(x.count(1), 24);
            due(x.bottle(0, 0, 0), FULL);
            due(x.count(1), 24);
            due(x.told(24, 0), NONE_SUCH);
            for (int i = 0; i < 24; i++) {
                due(x.told(i, 0), i % 6);
            }
            due(x.shows(23, 2), 3);
        });
        S.hold("and that in it; parts as of wine()): its number. BAD; FULL.", x -> {
            x.wine(1, 9, 0, 0);
            for (int i = 0; i < 24; i++) {
                x.bottle(0, 0, 0);
            }
            due(x.bottle(0, 0, 0), FULL);
            due(x.bottle(6, 0, 0), BAD);
            due(x.bottle(-1, 0, 0), BAD);
            due(x.bottle(0, 1, 0), BAD);
            due(x.bottle(0, 10, 0), BAD);
            due(x.bottle(0, 0, 4), BAD);
            due(x.count(1), 24);
        });
        S.hold("have a KIND: 0 BOTTLE, 1 TRUE under BOTTLE", x -> {
            x.wine(1, 9, 0, 0);
            S.refused(BAD, Sentences.beyond(0, 5), v -> x.bottle(v, 0, 0));
            due(x.count(1), 0);
            for (int kind = 0; kind < 6; kind++) {
                due(x.bottle(kind, 0, 0), kind);
                due(x.told(kind, 0), kind);
            }
        });
        S.hold("GLASS, PAPER, CORK of their own (0 .. 3 each)", x -> {
            x.wine(1, 9, 0, 0);
            S.refused(BAD, NO_PARTS, v -> x.bottle(0, 0, v));
            due(x.count(1), 0);
            int[] parts = {0, 3, 30, 300, 333, 123, 210};
            int[][] each = {{0, 0, 0}, {0, 0, 3}, {0, 3, 0}, {3, 0, 0}, {3, 3, 3}, {1, 2, 3}, {2, 1, 0}};
            for (int i = 0; i < parts.length; i++) {
                due(x.bottle(0, 0, parts[i]), i);
                for (int part = 0; part < 3; part++) {
                    due(x.shows(i, part), each[i][part]);
                }
            }
        });
    }

    private static void bottleNumbers() {
        S.hold("(wines: 10 times the WINE that it is said to be, and that in it", x -> {
            due(x.bottle(0, 0, 0), BAD);
            x.wine(1, 9, 0, 0);
            int[] bad = {-1, -9, -10, -11, -100, 1, 9, 10, 11, 19, 90, 99, 100, 101, 110, 256, 65536, Integer.MIN_VALUE,
                Integer.MIN_VALUE + 8, Integer.MAX_VALUE, Integer.MAX_VALUE - 7};
            S.refused(BAD, bad, v -> x.bottle(0, v, 0));
            due(x.count(1), 0);
            due(x.bottle(0, 0, 0), 0);
        });
        S.hold("a WINE that they are said to be, a WINE that is in them", x -> {
            for (int i = 0; i < 8; i++) {
                x.wine(1, 9, 0, 0);
            }
            int[] bad = {8, 9, 18, 78, 79, 80, 81, 87, 88, 90, 99, 100, 107, 170, 777, -1, -7, -70, -77};
            S.refused(BAD, bad, v -> x.bottle(0, v, 0));
            int[] good = {0, 7, 70, 77, 1, 10, 67, 76};
            for (int i = 0; i < good.length; i++) {
                due(x.bottle(0, good[i], 0), i);
                due(x.told(i, 1), good[i] / 10);
                due(x.taken(i, 0), good[i] % 10);
            }
        });
    }

    /** A WINE and a BOTTLE of each KIND, with PARTS all unlike the WINE's. */
    private static void sixKinds(OldBottles x) {
        x.wine(50, 9, 123, 102099);
        x.wine(60, 9, 0, 50809);
        for (int kind = 0; kind < 6; kind++) {
            x.bottle(kind, 1, 30);
        }
    }

    private static void told() {
        S.hold("10 open. -5: none such.", x -> {
            for (int what = -1; what < 12; what++) {
                due(x.told(0, what), NONE_SUCH);
            }
            x.wine(1, 9, 0, 0);
            x.bottle(0, 0, 0);
            for (int what = 0; what < 11; what++) {
                int w = what;
                S.refused(NONE_SUCH, new int[] {-1, 1, 24, Integer.MIN_VALUE, Integer.MAX_VALUE}, v -> x.told(v, w));
            }
            S.refused(NONE_SUCH, Sentences.beyond(0, 10), v -> x.told(0, v));
            due(x.told(0, 0), 0);
            due(x.told(0, 10), 10);
        });
        S.hold("7 its owner (NONE)", x -> {
            x.wine(1, 9, 0, 0);
            x.bottle(0, 0, 0);
            x.bottle(0, 0, 0);
            due(x.told(0, 7), NONE);
            due(x.sale(0, 11, 0, 0), BAD);
            due(x.told(0, 7), NONE);
            x.sale(0, 90, 0, 0);
            due(x.told(0, 7), 0);
            due(x.told(1, 7), NONE);
            x.sale(0, 89, 0, 0);
            due(x.told(0, 7), 9);
        });
        S.hold("GAP of a BOTTLE: SALES of it at which who sold isn't who bought it last (its first SALE is none).", x -> {
            x.wine(1, 9, 0, 0);
            x.bottle(0, 0, 0);
            x.bottle(0, 0, 0);
            due(x.told(0, 5), 0);
            x.sale(0, 56, 0, 0);
            due(x.told(0, 5), 0);
            x.sale(1, 12, 0, 0);
            due(x.told(1, 5), 0);
            x.sale(0, 67, 0, 0);
            due(x.told(0, 5), 0);
            x.sale(0, 67, 0, 0);
            due(x.told(0, 5), 1);
            x.sale(1, 10, 0, 0);
            due(x.told(1, 5), 1);
            x.sale(1, 1, 0, 0);
            due(x.told(1, 5), 1);
            due(x.told(0, 5), 1);
        });
        S.hold("WEIGHT (of its being of that KIND): BOTTLE 2; TRUE 3 more than a BOTTLE; REFILLED as a BOTTLE;"
                + " MOVED 2 less than a TRUE one; MIXED 1 less than a REFILLED one; NEVER 1 less than a BOTTLE.", x -> {
            sixKinds(x);
            int[] weights = {2, 5, 2, 3, 1, 1};
            for (int kind = 0; kind < 6; kind++) {
                due(x.told(kind, 6), weights[kind]);
            }
        });
    }

    private static void toldOfParts() {
        S.hold("it is ODD, if it is not that WINE's, and does not bar", x -> {
            sixKinds(x);
            int[] odd = {7, 0, 6, 4, 4, 7};
            for (int part = 0; part < 3; part++) {
                int own = part == 1 ? 3 : 0;
                x.book(part, own, 0, 49);
                for (int kind = 0; kind < 6; kind++) {
                    due(x.told(kind, 3), odd[kind] & ~(1 << part));
                    due(x.told(kind, 2), odd[kind] & 1 << part);
                }
                x.book(part, own, 0, 99);
            }
            for (int kind = 0; kind < 6; kind++) {
                due(x.told(kind, 3), odd[kind]);
                due(x.told(kind, 2), 0);
            }
        });
        S.hold("it is ODD, if it is not that WINE's", x -> {
            // the PARTS of the WINE in it don't count
            x.wine(50, 9, 123, 0);
            x.wine(50, 9, 321, 0);
            x.bottle(0, 1, 321);
            x.bottle(0, 1, 123);
            due(x.told(0, 3), 5);
            due(x.told(1, 3), 0);
        });
        S.hold("2 PARTS that bar it (bits), 3 PARTS that are ODD (bits)", x -> {
            x.wine(50, 9, 0, 0);
            int[] parts = {100, 10, 1, 111, 0, 110, 11, 101};
            int[] bits = {1, 2, 4, 7, 0, 3, 6, 5};
            for (int i = 0; i < parts.length; i++) {
                x.bottle(0, 0, parts[i]);
                due(x.told(i, 3), bits[i]);
                due(x.told(i, 2), 0);
            }
            for (int part = 0; part < 3; part++) {
                x.book(part, 1, 0, 49);
            }
            for (int i = 0; i < parts.length; i++) {
                due(x.told(i, 2), bits[i]);
                due(x.told(i, 3), 0);
            }
        });
        S.hold("A BOTTLE is BARRED, if some PART bars it", x -> {
            x.wine(50, 9, 0, 0);
            x.bottle(1, 0, 0);
            due(x.told(0, 4), 0);
            for (int part = 0; part < 3; part++) {
                x.book(part, 0, 51, 51);
                due(x.told(0, 4), 1);
                x.book(part, 0, 50, 51);
                due(x.told(0, 4), 0);
            }
        });
    }

    private static void toldOfNoneMade() {
        S.hold("or if of its WINE none was MADE", x -> {
            x.wine(50, 0, 0, 0);
            x.wine(50, 1, 0, 0);
            x.bottle(1, 0, 0);
            x.bottle(1, 11, 0);
            x.bottle(0, 10, 0);
            x.bottle(0, 1, 0);
            int[] barred = {1, 0, 0, 1};
            for (int bottle = 0; bottle < 4; bottle++) {
                due(x.told(bottle, 4), barred[bottle]);
                due(x.told(bottle, 2), 0);
            }
            // MADE, not what is LEFT
            x.drunk(1, 999);
            due(x.told(1, 4), 0);
            due(x.count(6), 2);
        });
    }

    private static void shows() {
        S.hold("SHOWS of a PART (which 0 .. 2), TASTES (3 .. 5). BAD.", x -> {
            due(x.shows(0, 0), BAD);
            x.wine(1, 9, 321, 123456);
            x.bottle(1, 0, 0);
            S.refused(BAD, Sentences.beyond(0, 0), v -> x.shows(v, 0));
            S.refused(BAD, Sentences.beyond(0, 0), v -> x.shows(v, 5));
            S.refused(BAD, Sentences.beyond(0, 5), v -> x.shows(0, v));
            int[] all = {3, 2, 1, 12, 34, 56};
            for (int which = 0; which < 6; which++) {
                due(x.shows(0, which), all[which]);
            }
        });
        S.hold("SHOWS of a PART: BOTTLE: its own; TRUE: as the WINE that it is said to be; REFILLED: GLASS as that WINE,"
                + " the others as a BOTTLE; MOVED: as a TRUE one, but its CORK as its own;"
                + " MIXED: as a REFILLED one, but its PAPER as that WINE; NEVER: as a BOTTLE.", x -> {
            x.wine(50, 9, 111, 0);
            x.wine(50, 9, 222, 0);
            int[][] shown = {{3, 3, 3}, {1, 1, 1}, {1, 3, 3}, {1, 1, 3}, {1, 1, 3}, {3, 3, 3}};
            for (int kind = 0; kind < 6; kind++) {
                x.bottle(kind, 1, 333);
                for (int part = 0; part < 3; part++) {
                    due(x.shows(kind, part), shown[kind][part]);
                }
            }
        });
    }

    /** The first number that a BOTTLE of a KIND TASTES, said to be of a WINE and with one in it that have these. */
    private static int tasteOf(int kind, int said, int in) {
        OldBottles x = new OldBottles();
        x.wine(1, 9, 0, said * 10000);
        x.wine(1, 9, 0, in * 10000);
        x.bottle(kind, 1, 0);
        return x.shows(0, 3);
    }

    private static void tastes() {
        S.hold("TASTES (the k-th number): BOTTLE: of the WINE that is in it; TRUE: of the WINE that it is said to be;"
                + " REFILLED: as a BOTTLE; MOVED: as a TRUE one", x -> {
            int[] due = {20, 10, 20, 10};
            for (int kind = 0; kind < due.length; kind++) {
                due(tasteOf(kind, 10, 20), due[kind]);
            }
        });
        S.hold("MIXED: half (cut) of what a REFILLED one TASTES and that of the WINE that it is said to be, together", x -> {
            due(tasteOf(4, 0, 0), 0);
            due(tasteOf(4, 0, 1), 0);
            due(tasteOf(4, 1, 0), 0);
            due(tasteOf(4, 1, 1), 1);
            due(tasteOf(4, 1, 2), 1);
            due(tasteOf(4, 99, 98), 98);
            due(tasteOf(4, 99, 99), 99);
            due(tasteOf(4, 0, 99), 49);
            due(tasteOf(4, 99, 0), 49);
        });
        S.hold("NEVER: as a BOTTLE, 9 less (0 at least)", x -> {
            due(tasteOf(5, 50, 0), 0);
            due(tasteOf(5, 50, 8), 0);
            due(tasteOf(5, 50, 9), 0);
            due(tasteOf(5, 50, 10), 1);
            due(tasteOf(5, 0, 99), 90);
        });
        S.hold("TASTES (the k-th number)", x -> {
            x.wine(1, 9, 0, 112233);
            x.wine(1, 9, 0, 300805);
            int[][] due = {{30, 8, 5}, {11, 22, 33}, {30, 8, 5}, {11, 22, 33}, {20, 15, 19}, {21, 0, 0}};
            for (int kind = 0; kind < 6; kind++) {
                x.bottle(kind, 1, 0);
                for (int k = 0; k < 3; k++) {
                    due(x.shows(kind, 3 + k), due[kind][k]);
                }
            }
        });
    }
}
