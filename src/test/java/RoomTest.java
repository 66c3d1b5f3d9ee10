import java.lang.management.ManagementFactory;

/**
 * The room that calls take: all calls of one run live in one room, so that what they make is counted in bytes. A call that
 * asks makes nothing at all; a WINE, a BOTTLE, a TEXT that can be read make a little, once each.
 */
public final class RoomTest {
    private interface Call {
        long on(OldBottles x);
    }

    /** Some bytes may be the machine's own. */
    private static final int CALLS = 400, NOTHING = 1000;
    private static final com.sun.management.ThreadMXBean BEAN =
            (com.sun.management.ThreadMXBean) ManagementFactory.getThreadMXBean();
    private static final Due DUE = new Due("RoomTest");
    private static long answers;

    public static void main(String[] args) {
        asking();
        changing();
        making();
        DUE.end();
    }

    private static OldBottles full() {
        OldBottles x = new OldBottles();
        for (int i = 0; i < 8; i++) {
            x.wine(10 * i, i, 111 * (i % 4), 102030 * i);
        }
        for (int i = 0; i < 24; i++) {
            x.bottle(i % 6, 10 * (i % 8) + i % 7, 123);
        }
        for (int i = 0; i < 40; i++) {
            x.sale(i % 24, i % 9 * 10 + 9, 100 * i, i);
        }
        x.book(2, 3, 40, 50);
        Due.text(x, "doubt year+odd;price (made or not sold)*7;open 1+gap;");
        x.force(1);
        for (int i = 0; i < 12; i++) {
            x.said(0, i, i % 2, i % 8);
        }
        x.sheet(0, 2, 40);
        x.sheet(1, 2, 40);
        x.image();
        return x;
    }

    private static void nothing(String name, Call call) {
        OldBottles x = full();
        OldBottles other = full();
        for (int i = 0; i < CALLS; i++) {
            answers += call.on(other);
        }
        long before = BEAN.getCurrentThreadAllocatedBytes();
        for (int i = 0; i < CALLS; i++) {
            answers += call.on(x);
        }
        long made = BEAN.getCurrentThreadAllocatedBytes() - before;
        DUE.is(name + " makes nothing, but made " + made + " bytes", made < NOTHING ? 1 : 0, 1);
    }

    private static void asking() {
        nothing("told", x -> x.told(7, 8) + x.told(5, 9) + x.told(3, 10) + x.told(2, 2) + x.told(2, 3) + x.told(2, 5));
        nothing("shows", x -> x.shows(4, 1) + x.shows(4, 4));
        nothing("left", x -> x.left(3, 0) + x.left(3, 1) + x.left(3, 2));
        nothing("odds", x -> x.odds(1, 0) + x.odds(1, 1));
        nothing("source", x -> x.source(3, 0) + x.source(3, 1));
        nothing("worst", x -> x.worst());
        nothing("mix", x -> x.mix(0, 1, 2, 0) + x.mix(3, 4, 5, 1));
        nothing("tongue", x -> x.tongue(0, 0) + x.tongue(0, 2));
        nothing("opened", x -> x.opened(10, 0) + x.opened(999, 1));
        nothing("owed", x -> x.owed(3));
        nothing("chain", x -> x.chain(3));
        nothing("falls", x -> x.falls(3, 77));
        nothing("saw", x -> x.saw(3));
        nothing("count", x -> x.count(6) + x.count(7));
        nothing("taken", x -> x.taken(4, 2) + x.taken(4, 1));
    }

    private static void changing() {
        nothing("drunk", x -> x.drunk(1, 5));
        nothing("book", x -> x.book(1, 2, 3, 4));
        nothing("test", x -> x.test(1, 5));
        nothing("force", x -> x.force(0) + x.force(1));
        nothing("image and back", x -> x.image() + x.back());
        nothing("sheet", x -> x.sheet(2, 1, 30) + x.sheet(2, -1, 0));
        nothing("cell", x -> x.cell(0, 3, 4));
        nothing("copy", x -> x.copy(0, 1, 1, 2, 30) + x.copy(0, 1, 0, 2, 30));
        nothing("sales", x -> x.sales(0, 2, 0, 10));
        // "doubt(-1", that ends too early
        nothing("feed, and a text with a FAULT", x -> x.feed(8, 0x312d287462756f64L) + x.text());
        nothing("what is refused", x -> x.wine(1, 1, 0, 0) + x.bottle(0, 0, 0) + x.sale(0, 12, 1, 99) + x.said(0, 0, 0, 0));
    }

    private static void making() {
        OldBottles warm = full();
        answers += warm.count(0);
        long before = BEAN.getCurrentThreadAllocatedBytes();
        OldBottles x = new OldBottles();
        long began = BEAN.getCurrentThreadAllocatedBytes();
        for (int i = 0; i < 8; i++) {
            x.wine(i, i, 0, 0);
        }
        long wines = BEAN.getCurrentThreadAllocatedBytes();
        for (int i = 0; i < 24; i++) {
            x.bottle(0, 0, 0);
        }
        long bottles = BEAN.getCurrentThreadAllocatedBytes();
        for (int i = 0; i < 40; i++) {
            x.sale(i % 24, 12, 1, i);
        }
        long sales = BEAN.getCurrentThreadAllocatedBytes();
        DUE.is("a new object: " + (began - before), began - before < 20000 ? 1 : 0, 1);
        DUE.is("8 wines: " + (wines - began), wines - began < 8 * 100 + NOTHING ? 1 : 0, 1);
        DUE.is("24 bottles: " + (bottles - wines), bottles - wines < 24 * 100 + NOTHING ? 1 : 0, 1);
        DUE.is("40 sales: " + (sales - bottles), sales - bottles < NOTHING ? 1 : 0, 1);
    }
}
