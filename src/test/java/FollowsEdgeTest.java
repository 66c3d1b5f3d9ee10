/** The boundaries that the document names of promises 13 to 27, a test for each sentence. */
public final class FollowsEdgeTest {
    private static final int BAD = OldBottles.BAD, FULL = OldBottles.FULL, NONE = OldBottles.NONE;
    private static final long NO = OldBottles.NO;
    private static final Sentences S = new Sentences("FollowsEdgeTest");

    public static void main(String[] args) {
        left();
        odds();
        oddsOfKinds();
        oddsOfDoubts();
        sources();
        worst();
        worstOfLikeOnes();
        mix();
        mixOfLikeOnes();
        said();
        tongue();
        opened();
        openedOfLikeOnes();
        owed();
        chain();
        falls();
        fallsWithHands();
        saw();
        image();
        back();
        backOfSales();
        backOfChains();
        backLeaves();
        count();
        S.end();
    }

    private static void due(long got, long want) {
        S.due(got, want);
    }

    /** WINE 0 was MADE, WINE 1 was not; BOTTLES 0 and 1 are of the one, BOTTLE 2, which is BARRED, of the other. */
    private static void traded(OldBottles x) {
        x.wine(50, 9, 123, 0);
        x.wine(50, 0, 123, 0);
        x.bottle(1, 0, 0);
        x.bottle(1, 0, 0);
        x.bottle(1, 10, 0);
    }

    /** THE RULE becomes a TEXT that is told nowhere else. */
    private static void rule(OldBottles x, String doubt, String price, String open) {
        int text = Due.text(x, "doubt " + doubt + ";price " + price + ";open " + open + ";");
        due(text > 0 ? 1 : text, 1);
        x.force(text);
    }

    private static void left() {
        S.hold("LEFT of a WINE: MADE less DRUNK (0 at least)", x -> {
            x.wine(1, 5, 0, 0);
            x.wine(1, 0, 0, 0);
            x.wine(1, 999, 0, 0);
            int[][] due = {{0, 0, 5}, {0, 4, 1}, {0, 5, 0}, {0, 6, 0}, {0, 999, 0}, {1, 0, 0}, {1, 1, 0}, {1, 999, 0},
                {2, 0, 999}, {2, 998, 1}, {2, 999, 0}};
            for (int[] d : due) {
                x.drunk(d[0], d[1]);
                due(x.left(d[0], 0), d[2]);
                due(x.left(d[0], 1), 0);
            }
        });
        S.hold("how many BOTTLES said to be of it were SOLD at least once more than that (0 at least)", x -> {
            x.wine(1, 3, 0, 0);
            x.wine(1, 1, 0, 0);
            for (int i = 0; i < 5; i++) {
                x.bottle(0, 1, 0);
            }
            int[] beyond = {0, 0, 0, 1, 2};
            for (int i = 0; i < 5; i++) {
                x.sale(i, 12, 1, 1);
                x.sale(i, 23, 1, 1);
                due(x.left(0, 1), beyond[i]);
                due(x.left(0, 2), i + 1);
            }
            due(x.left(1, 1), 0);
            due(x.left(1, 2), 0);
            x.drunk(0, 3);
            due(x.left(0, 1), 5);
            x.drunk(0, 999);
            due(x.left(0, 1), 5);
        });
        S.hold("LEFT (what 0), BEYOND (1), how many were SOLD at least once (2). BAD.", x -> {
            due(x.left(0, 0), BAD);
            x.wine(1, 3, 0, 0);
            S.refused(BAD, Sentences.beyond(0, 0), v -> x.left(v, 0));
            S.refused(BAD, Sentences.beyond(0, 2), v -> x.left(0, v));
            due(x.left(0, 0), 3);
            due(x.left(0, 2), 0);
        });
    }

    private static void odds() {
        S.hold("ODDS: part 0 above, 1 below the line, in lowest terms. NO: none such.", x -> {
            due(x.odds(0, 0), NO);
            traded(x);
            S.refused(NO, Sentences.beyond(0, 2), v -> x.odds(v, 0));
            S.refused(NO, Sentences.beyond(0, 2), v -> x.odds(v, 1));
            S.refused(NO, Sentences.beyond(0, 1), v -> x.odds(0, v));
            // a BARRED one, too
            S.refused(NO, Sentences.beyond(0, 1), v -> x.odds(2, v));
        });
        S.hold("0 by 1, if it is BARRED", x -> {
            traded(x);
            due(x.odds(2, 0), 0);
            due(x.odds(2, 1), 1);
            due(x.odds(0, 0), 500);
            due(x.odds(0, 1), 501);
            x.book(0, 1, 51, 51);
            due(x.odds(0, 0), 0);
            due(x.odds(0, 1), 1);
            x.book(0, 1, 50, 51);
            due(x.odds(0, 0), 500);
            due(x.odds(0, 1), 501);
        });
    }

    private static void oddsOfKinds() {
        S.hold("t: WEIGHT of a TRUE one times (100 less doubt), f: WEIGHT of its own KIND"
                + " (of a NEVER, if it is TRUE or under it) times (doubt and 1)", x -> {
            x.wine(50, 9, 0, 0);
            for (int kind = 0; kind < 6; kind++) {
                x.bottle(kind, 0, 0);
            }
            // doubt 0: 500 by 502 or 501
            long[] belowNone = {251, 501, 251, 501, 501, 501};
            for (int kind = 0; kind < 6; kind++) {
                due(x.odds(kind, 0), belowNone[kind] == 251 ? 250 : 500);
                due(x.odds(kind, 1), belowNone[kind]);
            }
            // doubt 99: 5 by 205 or 105
            rule(x, "99", "1", "1");
            long[] belowAll = {41, 21, 41, 21, 21, 21};
            for (int kind = 0; kind < 6; kind++) {
                due(x.odds(kind, 0), 1);
                due(x.odds(kind, 1), belowAll[kind]);
            }
            // beyond its bounds it is doubted as much
            rule(x, "1000", "1", "1");
            due(x.odds(0, 1), 41);
            rule(x, "-1000", "1", "1");
            due(x.odds(0, 1), 251);
        });
        S.hold("in lowest terms", x -> {
            x.wine(50, 9, 0, 0);
            x.bottle(0, 0, 0);
            x.bottle(1, 0, 0);
            Due.text(x, "doubt made;price 1;open 1;");
            x.force(1);
            // doubt 9: 455 by 455 and 20, 455 and 10
            due(x.odds(0, 0), 91);
            due(x.odds(0, 1), 95);
            due(x.odds(1, 0), 91);
            due(x.odds(1, 1), 93);
            for (int doubt = 10; doubt < 14; doubt++) {
                rule(x, "" + doubt, "1", "1");
                long t = 5L * (100 - doubt), f = 2L * (doubt + 1);
                due(x.odds(0, 0) * (t + f), x.odds(0, 1) * t);
                for (int d = 2; d < 20; d++) {
                    due(x.odds(0, 0) % d == 0 && x.odds(0, 1) % d == 0 ? d : 1, 1);
                }
            }
        });
    }

    private static void oddsOfDoubts() {
        S.hold("ODDS that a BOTTLE is TRUE: t by (t and f)", none -> {
            // each KIND at each doubt, which is the YEAR of its WINE; f is the greater one from some 70 on
            int[] own = {2, 1, 2, 1, 1, 1};
            for (int doubt = 0; doubt < 100; doubt++) {
                OldBottles x = new OldBottles();
                x.wine(doubt, 9, 0, 0);
                rule(x, "year", "1", "1");
                for (int kind = 0; kind < 6; kind++) {
                    x.bottle(kind, 0, 0);
                    int t = 5 * (100 - doubt), all = t + own[kind] * (doubt + 1);
                    int common = t;
                    while (t % common != 0 || all % common != 0) {
                        common--;
                    }
                    due(x.odds(kind, 0), t / common);
                    due(x.odds(kind, 1), all / common);
                }
            }
        });
    }

    private static void sources() {
        S.hold("SOURCES: of a HAND 0 SALES, 1 of BARRED ones. BAD.", x -> {
            traded(x);
            S.refused(BAD, Sentences.beyond(0, 9), v -> x.source(v, 0));
            S.refused(BAD, Sentences.beyond(0, 9), v -> x.source(v, 1));
            S.refused(BAD, Sentences.beyond(0, 1), v -> x.source(0, v));
            for (int hand = 0; hand < 10; hand++) {
                due(x.source(hand, 0), 0);
                due(x.source(hand, 1), 0);
            }
            x.sale(2, 1, 1, 1);
            x.sale(2, 98, 1, 1);
            due(x.source(0, 0), 1);
            due(x.source(0, 1), 1);
            due(x.source(9, 0), 1);
            due(x.source(9, 1), 1);
            due(x.source(1, 0), 0);
            due(x.source(8, 1), 0);
        });
        S.hold("SALES by it, of those of BARRED BOTTLES", x -> {
            traded(x);
            for (int i = 0; i < 40; i++) {
                x.sale(i % 4 == 0 ? 2 : 0, 34, 1, 1);
            }
            due(x.source(3, 0), 40);
            due(x.source(3, 1), 10);
            x.book(2, 3, 0, 0);
            due(x.source(3, 1), 40);
            x.book(2, 3, 0, 99);
            due(x.source(3, 1), 10);
        });
    }

    private static void worst() {
        S.hold("`int worst()`: WORST. NONE.", x -> {
            due(x.worst(), NONE);
            traded(x);
            due(x.worst(), NONE);
            x.image();
            x.sale(2, 34, 1, 1);
            due(x.worst(), 3);
            x.back();
            due(x.worst(), NONE);
        });
        S.hold("the HAND (with 1 SALE at least)", x -> {
            traded(x);
            x.sale(0, 98, 1, 1);
            due(x.worst(), 9);
            x.sale(0, 1, 1, 1);
            x.sale(0, 1, 1, 1);
            due(x.worst(), 0);
            x.sale(2, 98, 1, 1);
            due(x.worst(), 9);
        });
        S.hold("with the greatest share of BARRED ones", x -> {
            // 3 of 17 is more than 4 of 23, though less in number and as much in hundredths that are cut
            traded(x);
            for (int i = 0; i < 23; i++) {
                x.sale(i < 4 ? 2 : 0, 12, 1, 1);
            }
            for (int i = 0; i < 17; i++) {
                x.sale(i < 3 ? 2 : 0, 52, 1, 1);
            }
            due(x.worst(), 5);
        });
        S.hold("with the greatest share of BARRED ones", x -> {
            // 4 of 17 is less than 6 of 23
            traded(x);
            for (int i = 0; i < 17; i++) {
                x.sale(i < 4 ? 2 : 0, 12, 1, 1);
            }
            for (int i = 0; i < 23; i++) {
                x.sale(i < 6 ? 2 : 0, 52, 1, 1);
            }
            due(x.worst(), 5);
        });
        S.hold("with the greatest share of BARRED ones", x -> {
            traded(x);
            for (int i = 0; i < 20; i++) {
                x.sale(0, 12, 1, 1);
            }
            x.sale(2, 72, 1, 1);
            x.sale(0, 72, 1, 1);
            due(x.worst(), 7);
            x.sale(2, 82, 1, 1);
            due(x.worst(), 8);
        });
    }

    private static void worstOfLikeOnes() {
        S.hold("of like ones with the most SALES, then the least", x -> {
            traded(x);
            // of hands 7, 4, 2 none sold a BARRED one
            x.sale(0, 70, 1, 1);
            due(x.worst(), 7);
            x.sale(0, 40, 1, 1);
            due(x.worst(), 4);
            x.sale(0, 20, 1, 1);
            due(x.worst(), 2);
            x.sale(0, 70, 1, 1);
            due(x.worst(), 7);
            x.sale(0, 40, 1, 1);
            due(x.worst(), 4);
        });
        S.hold("of like ones with the most SALES, then the least", x -> {
            traded(x);
            // a third each: hand 8 of three, hand 3 of six, hand 5 of six
            for (int i = 0; i < 3; i++) {
                x.sale(i == 0 ? 2 : 0, 89, 1, 1);
            }
            due(x.worst(), 8);
            for (int i = 0; i < 6; i++) {
                x.sale(i < 2 ? 2 : 0, 59, 1, 1);
            }
            due(x.worst(), 5);
            for (int i = 0; i < 6; i++) {
                x.sale(i < 2 ? 2 : 0, 39, 1, 1);
            }
            due(x.worst(), 3);
            x.sale(2, 19, 1, 1);
            x.sale(0, 19, 1, 1);
            x.sale(0, 19, 1, 1);
            due(x.worst(), 3);
        });
        S.hold("of like ones with the most SALES, then the least", x -> {
            traded(x);
            for (int hand = 9; hand >= 0; hand--) {
                x.sale(2, 10 * hand + (hand == 0 ? 1 : 0), 1, 1);
                due(x.worst(), hand);
            }
            x.sale(2, 91, 1, 1);
            due(x.worst(), 9);
        });
    }

    private static void mix() {
        S.hold("MIX (like: a WINE that it shall taste like): k (what 0), how FAR (1). BAD.", x -> {
            due(x.mix(0, 1, 2, 0), BAD);
            x.wine(1, 1, 0, 0);
            due(x.mix(0, 1, 0, 0), BAD);
            x.wine(1, 1, 0, 999999);
            x.wine(1, 1, 0, 505050);
            S.refused(BAD, Sentences.beyond(0, 2), v -> x.mix(v, 1, 2, 0));
            S.refused(BAD, Sentences.beyond(0, 2), v -> x.mix(0, v, 2, 0));
            S.refused(BAD, Sentences.beyond(0, 2), v -> x.mix(0, 1, v, 0));
            S.refused(BAD, Sentences.beyond(0, 1), v -> x.mix(0, 1, 2, v));
            due(x.mix(3, 3, 0, 0), BAD);
        });
        S.hold("of WINES a, b (unlike) k tenths (0 .. 10) of a and the rest of b", x -> {
            x.wine(1, 1, 0, 0);
            x.wine(1, 1, 0, 999999);
            x.wine(1, 1, 0, 999999);
            for (int wine = 0; wine < 3; wine++) {
                due(x.mix(wine, wine, 0, 0), BAD);
                due(x.mix(wine, wine, 1, 1), BAD);
            }
            // the ends, 0 and 10 tenths of a
            due(x.mix(0, 1, 0, 0), 10);
            due(x.mix(0, 1, 0, 1), 0);
            due(x.mix(0, 1, 1, 0), 0);
            due(x.mix(0, 1, 1, 1), 0);
            due(x.mix(1, 0, 0, 0), 0);
            due(x.mix(1, 0, 1, 0), 10);
            // WINES of one taste are unlike ones all the same; the farthest of all
            due(x.mix(1, 2, 0, 0), 0);
            due(x.mix(1, 2, 0, 1), 297);
            due(x.mix(2, 1, 1, 1), 0);
        });
        S.hold("(k times a's and (10 less k) times b's) by 10 (cut)", x -> {
            x.wine(1, 1, 0, 10101);
            x.wine(1, 1, 0, 0);
            // 9 tenths of 1 are 0, each of the three on its own
            due(x.mix(0, 1, 0, 0), 10);
            due(x.mix(0, 1, 0, 1), 0);
            due(x.mix(0, 1, 1, 0), 0);
            due(x.mix(1, 0, 1, 0), 1);
            due(x.mix(1, 0, 1, 1), 0);
            x.wine(1, 1, 0, 70000);
            x.wine(1, 1, 0, 100000);
            x.wine(1, 1, 0, 90000);
            x.wine(1, 1, 0, 80000);
            // 10, 9.7, 9.4, 9.1, 8.8
            due(x.mix(2, 3, 4, 0), 1);
            due(x.mix(2, 3, 5, 0), 4);
            due(x.mix(3, 2, 4, 0), 7);
            due(x.mix(3, 2, 5, 0), 4);
        });
        S.hold("k tenths (0 .. 10) of a and the rest of b", x -> {
            // 11 tenths, or 1 less than none, would be nearer
            x.wine(1, 1, 0, 500000);
            x.wine(1, 1, 0, 0);
            x.wine(1, 1, 0, 550000);
            x.wine(1, 1, 0, 990000);
            due(x.mix(0, 1, 2, 0), 10);
            due(x.mix(0, 1, 2, 1), 5);
            due(x.mix(1, 0, 2, 0), 0);
            due(x.mix(1, 0, 2, 1), 5);
            due(x.mix(0, 1, 3, 0), 10);
            due(x.mix(0, 1, 3, 1), 49);
            due(x.mix(2, 0, 1, 0), 0);
            due(x.mix(2, 0, 1, 1), 50);
            // 50.5 at k 9 is cut: the least of like ones
            due(x.mix(0, 2, 1, 0), 9);
            due(x.mix(0, 2, 1, 1), 50);
        });
        S.hold("FAR from a WINE: the sum of differences of the three", x -> {
            x.wine(1, 1, 0, 500000);
            x.wine(1, 1, 0, 500000);
            x.wine(1, 1, 0, 602010);
            x.wine(1, 1, 0, 402010);
            x.wine(1, 1, 0, 500001);
            x.wine(1, 1, 0, 500100);
            due(x.mix(0, 1, 2, 1), 40);
            due(x.mix(0, 1, 3, 1), 40);
            due(x.mix(0, 1, 4, 1), 1);
            due(x.mix(0, 1, 5, 1), 1);
        });
    }

    private static void mixOfLikeOnes() {
        S.hold("The k that is least FAR; of like ones the least.", x -> {
            x.wine(1, 1, 0, 990000);
            x.wine(1, 1, 0, 9900);
            x.wine(1, 1, 0, 0);
            x.wine(1, 1, 0, 100000);
            x.wine(1, 1, 0, 200000);
            // any k is about as far from 0: k 1 and 9 cut both numbers, and k 1 comes first
            due(x.mix(0, 1, 2, 0), 1);
            due(x.mix(0, 1, 2, 1), 98);
            due(x.mix(1, 0, 2, 0), 1);
            // k 0 is 20 off, k 10 none
            due(x.mix(4, 2, 4, 0), 10);
            // k 5 is 10 of 20
            due(x.mix(4, 2, 3, 0), 5);
            due(x.mix(2, 4, 3, 0), 5);
        });
        S.hold("of like ones the least", x -> {
            // between two k: 10 and 12 are as far from 11
            x.wine(1, 1, 0, 200000);
            x.wine(1, 1, 0, 0);
            x.wine(1, 1, 0, 110000);
            due(x.mix(0, 1, 2, 0), 5);
            due(x.mix(0, 1, 2, 1), 1);
            due(x.mix(1, 0, 2, 0), 4);
            due(x.mix(1, 0, 2, 1), 1);
        });
    }

    private static void said() {
        S.hold("A TONGUE said of a BOTTLE, TOLD (1) or not (0), that it is a WINE: how many it was given."
                + " BAD: TONGUE (0 .. 5), BOTTLE, told, WINE; FULL.", x -> {
            due(x.said(0, 0, 0, 0), BAD);
            x.wine(1, 1, 0, 0);
            due(x.said(0, 0, 0, 0), BAD);
            x.bottle(0, 0, 0);
            x.bottle(0, 0, 0);
            S.refused(BAD, Sentences.beyond(0, 5), v -> x.said(v, 0, 0, 0));
            S.refused(BAD, Sentences.beyond(0, 1), v -> x.said(0, v, 0, 0));
            S.refused(BAD, Sentences.beyond(0, 1), v -> x.said(0, 0, v, 0));
            S.refused(BAD, Sentences.beyond(0, 0), v -> x.said(0, 0, 0, v));
            S.refused(BAD, Sentences.beyond(0, 0), v -> x.said(0, 0, 1, v));
            for (int tongue = 0; tongue < 6; tongue++) {
                due(x.tongue(tongue, 1), 0);
                due(x.tongue(tongue, 3), 0);
                due(x.said(tongue, 1, 1, 0), 1);
            }
        });
        S.hold("TONGUES (6 at most, numbered from 0): each was given BOTTLES (12 at most each)", x -> {
            x.wine(1, 1, 0, 0);
            x.bottle(0, 0, 0);
            for (int tongue = 0; tongue < 6; tongue++) {
                for (int i = 1; i <= 12; i++) {
                    due(x.said(tongue, 0, i % 2, 0), i);
                }
                due(x.said(tongue, 0, 0, 0), FULL);
                due(x.said(tongue, 0, 1, 0), FULL);
                due(x.tongue(tongue, 0), 6);
                due(x.tongue(tongue, 1), 6);
            }
        });
        S.hold("BAD: TONGUE (0 .. 5), BOTTLE, told, WINE; FULL.", x -> {
            x.wine(1, 1, 0, 0);
            x.wine(1, 1, 0, 0);
            x.bottle(0, 1, 0);
            for (int i = 0; i < 12; i++) {
                x.said(0, 0, 1, 0);
            }
            due(x.said(0, 0, 1, 0), FULL);
            due(x.said(0, 1, 1, 0), BAD);
            due(x.said(0, 0, 2, 0), BAD);
            due(x.said(0, 0, -1, 0), BAD);
            due(x.said(0, 0, 1, 2), BAD);
            due(x.said(6, 0, 1, 0), BAD);
            due(x.tongue(0, 2), 12);
            due(x.tongue(0, 3), 12);
            due(x.said(5, 0, 1, 0), 1);
        });
    }

    private static void tongue() {
        S.hold("KNOWS: 0 right, 1 of how many; TAKES IN: 2 how many, 3 of how many. BAD.", x -> {
            S.refused(BAD, Sentences.beyond(0, 5), v -> x.tongue(v, 0));
            S.refused(BAD, Sentences.beyond(0, 5), v -> x.tongue(v, 3));
            S.refused(BAD, Sentences.beyond(0, 3), v -> x.tongue(0, v));
            for (int tongue = 0; tongue < 6; tongue++) {
                for (int what = 0; what < 4; what++) {
                    due(x.tongue(tongue, what), 0);
                }
            }
        });
        S.hold("WITHIN a BOTTLE is the WINE that it is said to be, if it is TRUE or under it, else the one that is in it.", x -> {
            x.wine(1, 1, 0, 0);
            x.wine(1, 1, 0, 0);
            int[] within = {1, 0, 1, 0, 1, 1};
            for (int kind = 0; kind < 6; kind++) {
                x.bottle(kind, 1, 0);
                x.said(kind, kind, 0, 0);
                due(x.tongue(kind, 0), within[kind] == 0 ? 1 : 0);
                x.said(kind, kind, 0, 1);
                due(x.tongue(kind, 0), 1);
                due(x.tongue(kind, 1), 2);
                due(x.tongue(kind, 3), 0);
                x.said(kind, kind, 1, 1);
                due(x.tongue(kind, 2), 0);
                due(x.tongue(kind, 3), within[kind] == 0 ? 0 : 1);
                x.said(kind, kind, 1, 0);
                due(x.tongue(kind, 2), within[kind] == 0 ? 0 : 1);
                due(x.tongue(kind, 3), within[kind] == 0 ? 0 : 2);
                due(x.tongue(kind, 1), 2);
            }
        });
        S.hold("KNOWS: of those not TOLD for how many it said what is WITHIN; TAKES IN: of those TOLD, of which WITHIN is"
                + " another WINE than they are said to be, for how many it said what they are said to be.", x -> {
            x.wine(1, 1, 0, 0);
            x.wine(1, 1, 0, 0);
            x.wine(1, 1, 0, 0);
            x.bottle(0, 0, 0);
            x.bottle(0, 10, 0);
            due(x.said(0, 0, 1, 0), 1);
            due(x.said(0, 0, 1, 1), 2);
            due(x.tongue(0, 3), 0);
            // neither what it is said to be nor what is WITHIN
            due(x.said(0, 1, 1, 2), 3);
            due(x.tongue(0, 2), 0);
            due(x.tongue(0, 3), 1);
            due(x.said(0, 1, 0, 1), 4);
            due(x.tongue(0, 0), 0);
            due(x.tongue(0, 1), 1);
        });
    }

    private static void opened() {
        S.hold("OPENED for so much coin (0 .. 999)", x -> {
            x.wine(50, 9, 0, 0);
            x.bottle(0, 0, 100);
            rule(x, "5", "1", "999");
            S.refused(BAD, Sentences.beyond(0, 999), v -> x.opened(v, 0));
            S.refused(BAD, Sentences.beyond(0, 999), v -> x.opened(v, 1));
            int[][] due = {{0, 0, 0, 0}, {1, 0, 0, 0}, {998, 0, 0, 0}, {999, 1, 5, 999}};
            for (int[] d : due) {
                for (int what = 0; what < 3; what++) {
                    due(x.opened(d[0], what), d[1 + what]);
                }
            }
        });
        S.hold("OPENED: the BOTTLES (what 0), how much they are doubted (1), coin (2). BAD.", x -> {
            for (int what = 0; what < 3; what++) {
                due(x.opened(0, what), 0);
                due(x.opened(999, what), 0);
            }
            S.refused(BAD, Sentences.beyond(0, 2), v -> x.opened(0, v));
            S.refused(BAD, Sentences.beyond(0, 2), v -> x.opened(999, v));
        });
        S.hold("of the first 10 BOTTLES those that are doubted most together (doubt of each; opening costs open of each;"
                + " bits)", x -> {
            x.wine(50, 9, 0, 0);
            rule(x, "99", "1", "1");
            for (int n = 1; n <= 12; n++) {
                x.bottle(0, 0, 0);
                int some = Math.min(10, n);
                due(x.opened(999, 0), (1 << some) - 1);
                due(x.opened(999, 1), 99 * some);
                due(x.opened(999, 2), some);
                due(x.opened(n, 2), some);
                due(x.opened(n - 1, 2), Math.min(10, n - 1));
            }
            due(x.opened(10, 0), 1023);
            due(x.opened(9, 0), 511);
        });
        S.hold("of the first 10 BOTTLES", x -> {
            // the eleventh alone is doubted
            x.wine(50, 9, 0, 0);
            for (int i = 0; i < 10; i++) {
                x.bottle(1, 0, 0);
            }
            x.bottle(0, 0, 111);
            due(x.told(10, 8), 15);
            due(x.opened(999, 0), 0);
            due(x.opened(999, 1), 0);
            due(x.opened(999, 2), 0);
        });
        S.hold("of the first 10 BOTTLES", x -> {
            // the tenth alone is doubted, as one that is BARRED
            x.wine(50, 9, 0, 0);
            for (int i = 0; i < 9; i++) {
                x.bottle(1, 0, 0);
            }
            x.bottle(0, 0, 111);
            x.book(0, 1, 0, 0);
            due(x.told(9, 8), 30);
            due(x.opened(11, 0), 0);
            for (int coin : new int[] {12, 24, 999}) {
                due(x.opened(coin, 0), 512);
                due(x.opened(coin, 1), 30);
                due(x.opened(coin, 2), 12);
            }
        });
    }

    private static void openedOfLikeOnes() {
        S.hold("of like ones the least coin, then the least as bits", x -> {
            x.wine(50, 9, 0, 0);
            // doubts 10, 10, 5, 5, 0 of 4, 4, 1, 2, 1 coin
            int[] parts = {110, 11, 1, 10, 0};
            for (int p : parts) {
                x.bottle(0, 0, p);
            }
            x.book(2, 1, 50, 50);
            rule(x, "odd*5", "1", "(odd=2)*4+(odd<2)");
            due(x.told(0, 10), 4);
            due(x.told(4, 10), 1);
            int[][] due = {{0, 0, 0, 0}, {1, 4, 5, 1}, {2, 12, 10, 2}, {3, 12, 10, 2}, {4, 12, 10, 2}, {5, 5, 15, 5},
                {6, 13, 20, 6}, {7, 13, 20, 6}, {9, 7, 25, 9}, {10, 15, 30, 10}, {999, 15, 30, 10}};
            for (int[] d : due) {
                for (int what = 0; what < 3; what++) {
                    due(x.opened(d[0], what), d[1 + what]);
                }
            }
        });
        S.hold("then the least as bits", x -> {
            x.wine(50, 9, 0, 0);
            for (int i = 0; i < 10; i++) {
                x.bottle(0, 0, 0);
            }
            rule(x, "1", "1", "7");
            for (int n = 0; n <= 10; n++) {
                due(x.opened(7 * n, 0), (1 << n) - 1);
                due(x.opened(7 * n + 6, 0), (1 << n) - 1);
            }
        });
        S.hold("of like ones the least coin", x -> {
            // what is not doubted stays shut
            x.wine(50, 9, 0, 0);
            x.bottle(1, 0, 0);
            x.bottle(0, 0, 100);
            x.bottle(1, 0, 0);
            due(x.opened(999, 0), 2);
            due(x.opened(999, 1), 5);
            due(x.opened(999, 2), 11);
            due(x.opened(10, 0), 0);
            due(x.opened(11, 0), 2);
        });
    }

    private static void owed() {
        S.hold("`long owed(int hand)`: OWED. NO: no such HAND.", x -> {
            S.refused(NO, Sentences.beyond(0, 9), v -> x.owed(v));
            for (int hand = 0; hand < 10; hand++) {
                due(x.owed(hand), 0);
            }
            traded(x);
            x.sale(2, 90, 7, 1);
            S.refused(NO, Sentences.beyond(0, 9), v -> x.owed(v));
            due(x.owed(0), 7);
            due(x.owed(9), -7);
        });
        S.hold("of each SALE of a BARRED BOTTLE who sold owes who bought the PRICE", x -> {
            traded(x);
            for (int i = 0; i < 40; i++) {
                x.sale(2, 34, 9999, 1);
            }
            due(x.owed(3), -399960);
            due(x.owed(4), 399960);
        });
        S.hold("what a HAND is owed less what it owes, in all", x -> {
            traded(x);
            x.sale(2, 12, 100, 1);
            x.sale(2, 23, 250, 1);
            x.sale(2, 21, 30, 1);
            x.sale(0, 21, 5000, 1);
            due(x.owed(1), -70);
            due(x.owed(2), -180);
            due(x.owed(3), 250);
            x.book(1, 2, 51, 51);
            due(x.owed(1), 4930);
            due(x.owed(2), -5180);
            x.book(1, 2, 50, 50);
            due(x.owed(1), -70);
        });
    }

    private static void chain() {
        S.hold("`int chain(int bottle)`: CHAIN. BAD.", x -> {
            due(x.chain(0), BAD);
            traded(x);
            S.refused(BAD, Sentences.beyond(0, 2), v -> x.chain(v));
            due(x.chain(2), 0);
        });
        S.hold("from the last one back, follow one another without a GAP (0: it was never sold)", x -> {
            traded(x);
            due(x.chain(0), 0);
            int[] hands = {12, 23, 31, 12, 12, 21, 10, 56, 65, 90, 1};
            int[] chains = {1, 2, 3, 4, 1, 2, 3, 1, 2, 1, 2};
            for (int i = 0; i < hands.length; i++) {
                x.sale(0, hands[i], 1, 1);
                due(x.chain(0), chains[i]);
                x.sale(1, 78, 1, 1);
                due(x.chain(1), 1);
            }
            due(x.chain(2), 0);
        });
    }

    private static void falls() {
        S.hold("`long falls(int bottle, int share)`: FALLS. NO: none such.", x -> {
            due(x.falls(0, 0), NO);
            traded(x);
            S.refused(NO, Sentences.beyond(0, 2), v -> x.falls(v, 50));
            S.refused(NO, Sentences.beyond(0, 100), v -> x.falls(0, v));
            S.refused(NO, Sentences.beyond(0, 100), v -> x.falls(2, v));
        });
        S.hold("times a share (hundredths, 0 .. 100) by 100 (cut)", x -> {
            traded(x);
            rule(x, "0", "made*100+99-450", "1");
            // 549 each
            due(x.falls(0, 0), 0);
            due(x.falls(0, 1), 10);
            due(x.falls(0, 50), 549);
            due(x.falls(0, 99), 1087);
            due(x.falls(0, 100), 1098);
            due(x.falls(2, 100), 0);
            due(x.falls(2, 0), 0);
        });
        S.hold("price of each together, times a share (hundredths, 0 .. 100) by 100 (cut)", x -> {
            // cut once, of all together: 199 and 199, 50 hundredths of which are 199, not 99 and 99
            traded(x);
            rule(x, "0", "199", "1");
            due(x.falls(0, 50), 199);
            due(x.falls(0, 1), 3);
            due(x.falls(0, 99), 394);
        });
        S.hold("price of each together", x -> {
            // 24 of 9999 each, which is the bound
            x.wine(50, 999, 0, 0);
            for (int i = 0; i < 24; i++) {
                x.bottle(1, 0, 0);
            }
            rule(x, "0", "9999*2", "1");
            due(x.falls(0, 100), 239976);
            due(x.falls(23, 99), 237576);
            due(x.falls(23, 1), 2399);
        });
        S.hold("that are not BARRED (itself, too)", x -> {
            x.wine(50, 9, 0, 0);
            x.bottle(1, 0, 0);
            x.bottle(0, 0, 100);
            x.bottle(0, 0, 10);
            rule(x, "0", "100", "1");
            due(x.falls(0, 100), 300);
            x.book(0, 1, 0, 0);
            due(x.falls(0, 100), 200);
            due(x.falls(1, 100), 200);
            due(x.falls(2, 100), 200);
            x.book(1, 1, 0, 0);
            due(x.falls(2, 100), 100);
            x.book(2, 0, 0, 0);
            due(x.falls(0, 100), 0);
        });
        S.hold("that are not BARRED (itself, too)", x -> {
            // the found one's own price counts, if it is the only one of its WINE
            x.wine(50, 9, 0, 0);
            x.wine(50, 8, 0, 0);
            x.bottle(1, 0, 0);
            x.bottle(1, 11, 0);
            x.bottle(0, 1, 0);
            due(x.falls(1, 100), 108);
            due(x.falls(0, 100), 218);
            due(x.falls(2, 100), 218);
        });
    }

    private static void fallsWithHands() {
        S.hold("and all that a HAND sold or bought that sold or bought it", x -> {
            for (int i = 0; i < 6; i++) {
                x.wine(50, 1 << i, 0, 0);
                x.bottle(1, 11 * i, 0);
            }
            rule(x, "0", "made", "1");
            // 0 from hand 1 to 2; the others with one hand of these, as seller or buyer, or with none
            x.sale(0, 12, 1, 1);
            due(x.falls(0, 100), 1);
            x.sale(1, 13, 1, 1);
            due(x.falls(0, 100), 3);
            x.sale(2, 24, 1, 1);
            due(x.falls(0, 100), 7);
            x.sale(3, 51, 1, 1);
            due(x.falls(0, 100), 15);
            x.sale(4, 62, 1, 1);
            due(x.falls(0, 100), 31);
            x.sale(5, 34, 1, 1);
            due(x.falls(0, 100), 31);
            due(x.falls(5, 100), 32 + 2 + 4);
            due(x.falls(1, 100), 1 + 2 + 8 + 32);
        });
        S.hold("and all that a HAND sold or bought that sold or bought it", x -> {
            // hands of earlier SALES, too, and HANDS 0 and 9
            for (int i = 0; i < 4; i++) {
                x.wine(50, 1 << i, 0, 0);
                x.bottle(1, 11 * i, 0);
            }
            rule(x, "0", "made", "1");
            x.sale(0, 98, 1, 1);
            x.sale(0, 70, 1, 1);
            x.sale(1, 94, 1, 1);
            x.sale(2, 50, 1, 1);
            x.sale(3, 45, 1, 1);
            due(x.falls(0, 100), 7);
            due(x.falls(1, 100), 1 + 2 + 8);
            due(x.falls(3, 100), 2 + 4 + 8);
        });
        S.hold("of all BOTTLES said to be of its WINE", x -> {
            // neither those that hold it, nor those of the WINE of what its hands sold
            x.wine(50, 1, 0, 0);
            x.wine(50, 10, 0, 0);
            x.bottle(0, 1, 0);
            x.bottle(0, 0, 0);
            x.bottle(0, 10, 0);
            x.bottle(0, 11, 0);
            rule(x, "0", "made", "1");
            due(x.falls(0, 100), 2);
            due(x.falls(2, 100), 20);
            x.sale(0, 12, 1, 1);
            x.sale(2, 12, 1, 1);
            due(x.falls(0, 100), 12);
            due(x.falls(1, 100), 2);
            due(x.falls(2, 100), 21);
        });
    }

    private static void saw() {
        S.hold("`int saw(int sale)`: SAW (1, 0). BAD: no such SALE.", x -> {
            due(x.saw(0), BAD);
            traded(x);
            due(x.saw(0), BAD);
            x.sale(0, 12, 1, 1);
            S.refused(BAD, Sentences.beyond(0, 0), v -> x.saw(v));
            due(x.saw(0), 0);
            x.sale(0, 12, 1, 1);
            due(x.saw(1), 0);
            due(x.saw(2), BAD);
        });
        S.hold("can be tested from a YEAR on that is not behind the SALE's (100 at first: never)", x -> {
            traded(x);
            int[] years = {0, 1, 49, 50, 51, 98, 99};
            for (int year : years) {
                x.sale(0, 12, 1, year);
            }
            x.book(1, 2, 0, 49);
            int[] from = {100, 99, 98, 51, 50, 49, 2, 1, 0, 100};
            for (int f : from) {
                due(x.test(1, f) >= 0 ? 1 : 0, 1);
                for (int sale = 0; sale < years.length; sale++) {
                    due(x.saw(sale), f <= years[sale] ? 1 : 0);
                }
            }
        });
        S.hold("(100 at first: never)", x -> {
            traded(x);
            x.sale(0, 12, 1, 99);
            for (int part = 0; part < 3; part++) {
                x.book(part, part + 1, 0, 0);
            }
            due(x.told(0, 2), 7);
            due(x.saw(0), 0);
            for (int part = 0; part < 3; part++) {
                x.test(part, 99);
                due(x.saw(0), 1);
                x.test(part, 100);
                due(x.saw(0), 0);
            }
        });
        S.hold("some PART bars it, and can be tested", x -> {
            // one PART bars, another can be tested; none was MADE: no PART bars
            traded(x);
            x.sale(0, 12, 1, 99);
            x.sale(2, 12, 1, 99);
            x.book(0, 1, 0, 0);
            x.test(1, 0);
            x.test(2, 0);
            due(x.saw(0), 0);
            x.book(0, 1, 0, 99);
            x.test(0, 0);
            due(x.saw(0), 0);
            due(x.saw(1), 0);
            x.book(2, 3, 0, 0);
            due(x.saw(0), 1);
            due(x.saw(1), 1);
        });
        S.hold("`int saw(int sale)`: SAW (1, 0).", x -> {
            traded(x);
            for (int i = 0; i < 40; i++) {
                x.sale(0, 12, 1, i);
            }
            x.book(0, 1, 0, 0);
            x.test(0, 39);
            due(x.saw(38), 0);
            due(x.saw(39), 1);
            due(x.saw(40), BAD);
        });
    }

    private static void image() {
        S.hold("`int image()`: AN IMAGE is kept: how many SALES.", x -> {
            due(x.image(), 0);
            traded(x);
            due(x.image(), 0);
            for (int i = 1; i <= 40; i++) {
                x.sale(0, 12, 1, 1);
                due(x.image(), i);
            }
            due(x.image(), 40);
            due(x.back(), 40);
            due(x.count(2), 40);
        });
        S.hold("All that it keeps is as in THE IMAGE: how many SALES. STATE: there is none.", x -> {
            due(x.back(), OldBottles.STATE);
            traded(x);
            x.drunk(0, 3);
            x.book(0, 1, 0, 0);
            x.sale(0, 12, 1, 1);
            due(x.back(), OldBottles.STATE);
            due(x.count(2), 1);
            due(x.drunk(0, 3), 3);
            due(x.told(0, 2), 1);
            due(x.image(), 1);
            due(x.back(), 1);
            due(x.back(), 1);
        });
        S.hold("STATE: there is none.", x -> {
            // an empty object has one, too, once it is kept
            due(x.back(), OldBottles.STATE);
            due(x.image(), 0);
            due(x.back(), 0);
            due(x.wine(1, 2, 0, 0), 0);
            x.bottle(0, 0, 0);
            x.sale(0, 12, 1, 1);
            x.drunk(0, 1);
            due(x.back(), 0);
            due(x.count(0), 1);
            due(x.count(1), 1);
            due(x.count(2), 0);
            due(x.drunk(0, 1), 1);
        });
    }

    private static void back() {
        S.hold("AN IMAGE keeps DRUNK of all WINES, THE BOOK, from when PARTS can be tested, THE RULE, how many SALES", x -> {
            traded(x);
            rule(x, "1", "2", "3");
            x.drunk(0, 3);
            x.drunk(1, 4);
            x.book(0, 1, 50, 60);
            for (int part = 0; part < 3; part++) {
                x.test(part, 10 + part);
            }
            x.sale(0, 12, 1, 1);
            due(x.image(), 1);
            // what is changed behind it never comes into it, however often it is laid back
            for (int times = 0; times < 3; times++) {
                x.drunk(0, 9);
                x.drunk(1, 9);
                for (int part = 0; part < 3; part++) {
                    x.book(part, part + 1, 0, 49);
                    x.test(part, 50);
                }
                x.force(0);
                x.sale(0, 23, 1, 1);
                x.sale(1, 23, 1, 1);
                due(x.told(0, 2), 7);
                due(x.back(), 1);
                due(x.told(0, 2), 0);
                due(x.drunk(0, 3), 3);
                due(x.drunk(1, 4), 4);
                for (int part = 0; part < 3; part++) {
                    due(x.test(part, 10 + part), 10 + part);
                }
                due(x.count(5), 1);
                due(x.count(2), 1);
                due(x.told(0, 8), 1);
            }
        });
        S.hold("THE BOOK, from when PARTS can be tested", x -> {
            // each of its twelve rows, from and till
            for (int n = 0; n < 4; n++) {
                x.wine(40, 9, 111 * n, 0);
                x.wine(60, 9, 111 * n, 0);
                x.bottle(1, 22 * n, 0);
                x.bottle(1, 22 * n + 11, 0);
            }
            for (int part = 0; part < 3; part++) {
                for (int which = 0; which < 4; which++) {
                    x.book(part, which, part == which ? 41 : 40, part + which == 3 ? 59 : 60);
                }
            }
            int[] bits = new int[8];
            for (int bottle = 0; bottle < 8; bottle++) {
                bits[bottle] = x.told(bottle, 2);
            }
            due(bits[0], 1);
            due(bits[1], 0);
            due(bits[3], 4);
            due(bits[7], 1);
            x.image();
            for (int part = 0; part < 3; part++) {
                for (int which = 0; which < 4; which++) {
                    x.book(part, which, 41, 59);
                }
            }
            for (int bottle = 0; bottle < 8; bottle++) {
                due(x.told(bottle, 2), 7);
            }
            x.back();
            for (int bottle = 0; bottle < 8; bottle++) {
                due(x.told(bottle, 2), bits[bottle]);
            }
        });
        S.hold("AN IMAGE is kept", x -> {
            // a later one takes the place of the first
            traded(x);
            x.sale(0, 12, 1, 1);
            x.drunk(0, 1);
            x.image();
            x.sale(0, 23, 1, 1);
            x.drunk(0, 2);
            x.book(0, 1, 50, 50);
            due(x.image(), 2);
            x.sale(0, 34, 1, 1);
            x.drunk(0, 3);
            x.book(0, 1, 0, 0);
            due(x.back(), 2);
            due(x.told(0, 7), 3);
            due(x.told(0, 2), 0);
            due(x.drunk(0, 2), 2);
            due(x.image(), 2);
        });
    }

    private static void backOfSales() {
        S.hold("how many SALES", x -> {
            // all that follows from SALES is as it was, too: owners, gaps, chains, years, what was sold
            traded(x);
            x.sale(0, 12, 1, 20);
            x.sale(0, 34, 1, 30);
            x.image();
            x.sale(0, 45, 1, 40);
            x.sale(0, 67, 1, 90);
            x.sale(1, 12, 1, 90);
            due(x.told(0, 5), 2);
            due(x.back(), 2);
            due(x.told(0, 5), 1);
            due(x.told(0, 7), 4);
            due(x.chain(0), 1);
            due(x.told(1, 7), NONE);
            due(x.chain(1), 0);
            due(x.count(7), 1);
            due(x.left(0, 2), 1);
            due(x.source(6, 0), 0);
            due(x.saw(2), BAD);
            due(x.sale(0, 45, 1, 29), BAD);
            due(x.sale(0, 45, 1, 30), 2);
            due(x.chain(0), 2);
            due(x.sale(1, 89, 1, 0), 3);
            due(x.told(1, 5), 0);
        });
        S.hold("how many SALES", x -> {
            // none at all; the year of the last SALE is none, then, and there is room for 40
            traded(x);
            x.image();
            for (int i = 0; i < 40; i++) {
                x.sale(0, 12, 1, 99);
            }
            due(x.sale(0, 12, 1, 99), FULL);
            due(x.back(), 0);
            due(x.count(2), 0);
            due(x.told(0, 5), 0);
            due(x.chain(0), 0);
            due(x.told(0, 7), NONE);
            for (int i = 0; i < 40; i++) {
                due(x.sale(0, 12, 1, i), i);
            }
            due(x.sale(0, 12, 1, 99), FULL);
            due(x.told(0, 5), 39);
        });
        S.hold("how many SALES", x -> {
            // SALES of BOTTLES that came since are gone, the BOTTLES are not
            traded(x);
            x.sale(0, 12, 1, 1);
            x.image();
            due(x.bottle(1, 10, 0), 3);
            x.sale(3, 12, 700, 5);
            due(x.owed(2), 700);
            due(x.back(), 1);
            due(x.count(1), 4);
            due(x.told(3, 7), NONE);
            due(x.owed(2), 0);
            due(x.sale(3, 21, 5, 0), 1);
            due(x.told(3, 5), 0);
            due(x.back(), 1);
            due(x.chain(3), 0);
        });
    }

    private static void backOfChains() {
        S.hold("how many SALES", x -> {
            // SALES that follow one another do so when some behind them are laid back
            traded(x);
            int[] hands = {12, 23, 34, 41};
            for (int h : hands) {
                x.sale(0, h, 1, 1);
                x.sale(1, h == 34 ? 35 : h, 1, 1);
            }
            due(x.image(), 8);
            x.sale(0, 56, 1, 1);
            x.sale(1, 56, 1, 1);
            due(x.back(), 8);
            due(x.told(0, 5), 0);
            due(x.chain(0), 4);
            due(x.told(0, 7), 1);
            due(x.told(1, 5), 1);
            due(x.chain(1), 1);
            x.sale(0, 12, 1, 1);
            due(x.chain(0), 5);
        });
        S.hold("how many SALES", x -> {
            // all are full: 8 WINES, 24 BOTTLES, 40 SALES
            for (int i = 0; i < 8; i++) {
                x.wine(50, 9, 0, 0);
                x.drunk(i, i);
            }
            for (int i = 0; i < 24; i++) {
                x.bottle(1, 11 * (i / 3), 0);
            }
            for (int i = 0; i < 40; i++) {
                x.sale(i % 24, i < 24 ? 12 : 23, 1, i);
            }
            due(x.image(), 40);
            for (int i = 0; i < 8; i++) {
                x.drunk(i, 9);
            }
            due(x.back(), 40);
            for (int i = 0; i < 24; i++) {
                due(x.told(i, 5), 0);
                due(x.chain(i), i < 16 ? 2 : 1);
                due(x.told(i, 7), i < 16 ? 3 : 2);
            }
            for (int i = 0; i < 8; i++) {
                due(x.drunk(i, 0), i);
                due(x.left(i, 2), 3);
            }
            due(x.sale(23, 23, 1, 99), FULL);
        });
    }

    private static void backLeaves() {
        S.hold("(WINES that came since stay as they are)", x -> {
            x.wine(1, 9, 0, 0);
            x.drunk(0, 1);
            x.image();
            for (int i = 1; i < 8; i++) {
                x.wine(1, 9, 0, 0);
                x.drunk(i, i + 1);
            }
            x.drunk(0, 7);
            due(x.back(), 0);
            due(x.count(0), 8);
            due(x.drunk(0, 1), 1);
            for (int i = 1; i < 8; i++) {
                due(x.drunk(i, 0), i + 1);
            }
            due(x.back(), 0);
            for (int i = 1; i < 8; i++) {
                due(x.drunk(i, 5), 0);
            }
            due(x.image(), 0);
            x.drunk(7, 6);
            x.back();
            due(x.drunk(7, 6), 5);
        });
        S.hold("All that it keeps is as in THE IMAGE", x -> {
            // what it does not keep stays: BOTTLES, TEXTS, THE TAPE, TONGUES, SHEETS
            traded(x);
            x.image();
            x.bottle(0, 0, 0);
            rule(x, "8", "9", "10");
            x.feed(3, 0);
            x.said(0, 0, 0, 0);
            x.sheet(2, 2, 4);
            x.cell(2, 1, 12);
            due(x.back(), 0);
            due(x.count(1), 4);
            due(x.count(3), 2);
            due(x.count(4), 3);
            due(x.count(5), 0);
            due(x.told(0, 8), 0);
            due(x.tongue(0, 1), 1);
            due(x.tongue(0, 0), 1);
            due(x.sales(2, 2, 0, 1), 1);
            due(x.force(1), 0);
            due(x.told(0, 8), 8);
            due(x.back(), 0);
            due(x.count(5), 0);
        });
    }

    private static void count() {
        S.hold("6 BARRED BOTTLES, 7 BOTTLES that were SOLD. BAD.", x -> {
            S.refused(BAD, Sentences.beyond(0, 7), v -> x.count(v));
            for (int what = 0; what < 8; what++) {
                due(x.count(what), what == 3 ? 1 : 0);
            }
        });
        S.hold("How many: 0 WINES, 1 BOTTLES, 2 SALES, 3 TEXTS, 4 bytes of THE TAPE, 5 THE RULE, 6 BARRED BOTTLES,"
                + " 7 BOTTLES that were SOLD.", x -> {
            // all are full
            for (int i = 0; i < 8; i++) {
                x.wine(i, 0, 0, 0);
            }
            for (int i = 0; i < 24; i++) {
                x.bottle(i % 6, 11 * (i % 8), 0);
                x.sale(i, 12, 1, 1);
            }
            for (int i = 0; i < 16; i++) {
                x.sale(i, 12, 1, 1);
            }
            for (int i = 1; i < 6; i++) {
                Due.text(x, "doubt 1;price 2;open 3;");
            }
            for (int i = 0; i < 20; i++) {
                x.feed(8, 0);
            }
            x.force(5);
            int[] due = {8, 24, 40, 6, 160, 5, 24, 24};
            for (int what = 0; what < 8; what++) {
                due(x.count(what), due[what]);
            }
        });
        S.hold("6 BARRED BOTTLES, 7 BOTTLES that were SOLD", x -> {
            traded(x);
            due(x.count(6), 1);
            x.book(0, 1, 0, 0);
            due(x.count(6), 3);
            x.book(0, 1, 50, 50);
            due(x.count(6), 1);
            due(x.count(7), 0);
            x.sale(2, 12, 1, 1);
            x.sale(2, 12, 1, 1);
            due(x.count(7), 1);
            x.sale(0, 12, 1, 1);
            due(x.count(7), 2);
        });
    }
}
