/**
 * The document's first paragraph, clause by clause, on one object: a hand-worked run through all of its 31 calls, in which
 * each clause builds on what the ones ahead of it left.
 */
public final class StoryTest {
    private static final Sentences S = new Sentences("StoryTest");
    private static final OldBottles X = new OldBottles();
    private static final int NONE = OldBottles.NONE, TRUE = 1, REFILLED = 2, MOVED = 3, MIXED = 4, NEVER = 5;

    public static void main(String[] args) {
        S.hold("wines that were made so many of in a year, in such glass, paper, cork", none -> wines());
        S.hold("bottles of kinds that show what they show and hold what they hold", none -> bottles());
        S.hold("books of when each glass, paper, cork was used, what bars a bottle and what is only odd", none -> books());
        S.hold("how many can be left, and how many were sold", none -> sold());
        S.hold("the odds that one is true", none -> odds());
        S.hold("hands through which more go that are barred", none -> hands());
        S.hold("mixtures that taste like another wine", none -> mixtures());
        S.hold("tongues that were told and not told", none -> tongues());
        S.hold("which to open for so much coin", none -> opened());
        S.hold("who owes whom back along sales", none -> owed());
        S.hold("what a found one does to all of its kind", none -> falls());
        S.hold("gaps in chains", none -> chains());
        S.hold("rules in texts", none -> texts());
        S.hold("all laid back", none -> laidBack());
        S.hold("SHEETS 0 .. 3 are rows of numbers, or missing (as all are at first)", none -> host());
        S.end();
    }

    private static void due(long got, long want) {
        S.due(got, want);
    }

    private static void wines() {
        due(X.wine(45, 3, 123, 102030), 0);
        due(X.wine(60, 2, 231, 908070), 1);
        due(X.wine(20, 0, 0, 505050), 2);
        due(X.count(0), 3);
    }

    private static void bottles() {
        due(X.bottle(0, 1, 133), 0);
        due(X.bottle(TRUE, 0, 0), 1);
        due(X.bottle(REFILLED, 1, 233), 2);
        due(X.bottle(MOVED, 10, 112), 3);
        due(X.bottle(MIXED, 1, 111), 4);
        due(X.bottle(NEVER, 1, 223), 5);
        due(X.bottle(TRUE, 22, 0), 6);
        int[][] shown = {{1, 3, 3, 90, 80, 70}, {1, 2, 3, 10, 20, 30}, {1, 3, 3, 90, 80, 70}, {2, 3, 2, 90, 80, 70},
            {1, 2, 1, 50, 50, 50}, {2, 2, 3, 81, 71, 61}, {0, 0, 0, 50, 50, 50}};
        int[] weights = {2, 5, 2, 3, 1, 1, 5}, kinds = {0, TRUE, REFILLED, MOVED, MIXED, NEVER, TRUE};
        int[] labels = {0, 0, 0, 1, 0, 0, 2}, inside = {1, 0, 1, 0, 1, 1, 2};
        for (int bottle = 0; bottle < shown.length; bottle++) {
            for (int which = 0; which < 6; which++) {
                due(X.shows(bottle, which), shown[bottle][which]);
            }
            due(X.told(bottle, 0), kinds[bottle]);
            due(X.told(bottle, 1), labels[bottle]);
            due(X.told(bottle, 6), weights[bottle]);
            due(X.told(bottle, 7), NONE);
            due(X.taken(bottle, 0), inside[bottle]);
        }
        due(X.taken(3, TRUE), 0);
        due(X.taken(3, MOVED), 0);
        due(X.taken(3, REFILLED), -13);
    }

    private static void books() {
        // only that there was none of it bars a BOTTLE as yet
        due(X.count(6), 1);
        due(X.told(6, 4), 1);
        due(X.book(2, 1, 50, 99), 1);
        due(X.book(0, 2, 50, 70), 1);
        int[] bars = {0, 0, 0, 0, 4, 1, 0}, odd = {2, 0, 2, 4, 0, 0, 0};
        for (int bottle = 0; bottle < bars.length; bottle++) {
            due(X.told(bottle, 2), bars[bottle]);
            due(X.told(bottle, 3), odd[bottle]);
            due(X.told(bottle, 4), bottle < 4 ? 0 : 1);
        }
        due(X.count(6), 3);
    }

    private static void sold() {
        due(X.sale(4, 12, 500, 50), 0);
        due(X.sale(4, 23, 700, 52), 1);
        due(X.sale(4, 56, 900, 55), 2);
        due(X.sale(1, 31, 400, 50), 3);
        due(X.sale(0, 78, 100, 10), 4);
        due(X.sale(5, 14, 50, 60), 5);
        due(X.drunk(0, 1), 0);
        due(X.left(0, 0), 2);
        due(X.left(0, 1), 2);
        due(X.left(0, 2), 4);
        due(X.left(1, 0), 2);
        due(X.left(1, 1), 0);
        due(X.count(7), 4);
    }

    private static void odds() {
        long[][] due = {{475, 487}, {500, 501}, {475, 487}, {475, 481}, {0, 1}, {0, 1}, {0, 1}};
        for (int bottle = 0; bottle < due.length; bottle++) {
            due(X.odds(bottle, 0), due[bottle][0]);
            due(X.odds(bottle, 1), due[bottle][1]);
        }
    }

    private static void hands() {
        int[] all = {0, 2, 1, 1, 0, 1, 0, 1, 0, 0}, barred = {0, 2, 1, 0, 0, 1, 0, 0, 0, 0};
        for (int hand = 0; hand < 10; hand++) {
            due(X.source(hand, 0), all[hand]);
            due(X.source(hand, 1), barred[hand]);
        }
        due(X.worst(), 1);
    }

    private static void mixtures() {
        due(X.mix(0, 1, 2, 0), 5);
        due(X.mix(0, 1, 2, 1), 0);
        due(X.mix(0, 2, 0, 0), 10);
        // the nearest is the one alone, 40 and 30 and 20 FAR
        due(X.mix(2, 1, 0, 0), 10);
        due(X.mix(2, 1, 0, 1), 90);
    }

    private static void tongues() {
        due(X.said(0, 0, 0, 1), 1);
        due(X.said(0, 1, 0, 0), 2);
        due(X.said(0, 2, 0, 0), 3);
        due(X.said(0, 4, 1, 0), 4);
        due(X.said(0, 1, 1, 0), 5);
        due(X.said(0, 5, 1, 1), 6);
        int[] due = {2, 3, 1, 2};
        for (int what = 0; what < 4; what++) {
            due(X.tongue(0, what), due[what]);
            due(X.tongue(1, what), 0);
        }
    }

    private static void opened() {
        // doubted: 5, 0, 5, 5, 21, 20, 0; opening costs 11, 10, 11, 11, 10, 10, 10
        int[][] due = {{9, 0, 0, 0}, {10, 16, 21, 10}, {19, 16, 21, 10}, {20, 48, 41, 20}, {30, 48, 41, 20}, {31, 49, 46, 31},
            {42, 53, 51, 42}, {53, 61, 56, 53}, {999, 61, 56, 53}};
        for (int[] d : due) {
            for (int what = 0; what < 3; what++) {
                due(X.opened(d[0], what), d[1 + what]);
            }
        }
    }

    private static void owed() {
        long[] due = {0, -550, -200, 700, 50, -900, 900, 0, 0, 0};
        for (int hand = 0; hand < 10; hand++) {
            due(X.owed(hand), due[hand]);
        }
        due(X.test(2, 52), 100);
        int[] saw = {0, 1, 1, 0, 0, 0};
        for (int sale = 0; sale < saw.length; sale++) {
            due(X.saw(sale), saw[sale]);
        }
    }

    private static void falls() {
        // 0, 1, 2 are of its WINE and not BARRED, at 3 - 4 * 2 + 100 each
        due(X.falls(4, 100), 285);
        due(X.falls(4, 50), 142);
        due(X.falls(4, 0), 0);
        due(X.falls(3, 100), 102);
        due(X.falls(6, 100), 0);
    }

    private static void chains() {
        int[] gaps = {0, 0, 0, 0, 1, 0, 0}, chains = {1, 1, 0, 0, 1, 1, 0}, owners = {8, 1, NONE, NONE, 6, 4, NONE};
        for (int bottle = 0; bottle < gaps.length; bottle++) {
            due(X.told(bottle, 5), gaps[bottle]);
            due(X.chain(bottle), chains[bottle]);
            due(X.told(bottle, 7), owners[bottle]);
        }
    }

    private static void texts() {
        due(X.image(), 6);
        due(Due.text(X, "doubt bars*30+gap ; price year*10 ; open not odd*7 ;"), 1);
        due(Due.text(X, "doubt bars*30+gap ; price year*10 ; open odd not 7 ;"), -145);
        due(X.count(3), 2);
        due(X.count(4), 0);
        due(X.told(4, 8), 21);
        due(X.told(4, 9), 95);
        due(X.told(4, 10), 10);
        due(X.force(1), 0);
        due(X.told(4, 8), 31);
        due(X.told(4, 9), 450);
        due(X.told(4, 10), 1);
        due(X.told(3, 8), 0);
        due(X.told(3, 9), 600);
        due(X.falls(3, 100), 600);
        due(X.opened(1, 0), 16);
    }

    private static void laidBack() {
        due(X.drunk(0, 2), 1);
        due(X.book(0, 2, 0, 99), 1);
        due(X.test(2, 0), 52);
        due(X.sale(2, 90, 9, 9), 6);
        due(X.sale(4, 67, 9, 99), 7);
        due(X.count(6), 2);
        due(X.chain(4), 2);
        due(X.left(0, 2), 5);
        due(X.back(), 6);
        due(X.count(2), 6);
        due(X.count(3), 2);
        due(X.count(5), 0);
        due(X.count(6), 3);
        due(X.left(0, 0), 2);
        due(X.test(2, 52), 52);
        due(X.tongue(0, 1), 3);
        odds();
        hands();
        opened();
        owedAgain();
        falls();
        chains();
    }

    private static void owedAgain() {
        due(X.owed(1), -550);
        due(X.owed(6), 900);
        due(X.saw(1), 1);
        due(X.saw(6), OldBottles.BAD);
    }

    private static void host() {
        due(X.cell(0, 0, 0), -11);
        due(X.sheet(0, 1, 9), 1);
        // the second SALE is none: a HAND sells to itself
        int[] row = {7, 3, 98, 5, 5, 3, 88, 6, 5};
        for (int i = 0; i < row.length; i++) {
            due(X.cell(0, i, row[i]), 1);
        }
        due(X.sales(0, 1, 1, 2), 1);
        due(X.told(3, 7), 8);
        due(X.copy(0, 1, 0, 5, 4), 4);
        due(X.sales(0, 1, 5, 1), 1);
        due(X.told(3, 5), 1);
        due(X.sheet(0, -1, -7), 1);
        due(X.sales(0, 1, 1, 1), -11);
        due(X.count(2), 8);
    }
}
