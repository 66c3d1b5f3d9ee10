import java.lang.reflect.InvocationTargetException;
import java.lang.reflect.Method;
import java.lang.reflect.Modifier;
import java.util.ArrayList;
import java.util.Comparator;
import java.util.List;
import java.util.Random;

/**
 * Rule 7 of LANGUAGE.md: no call throws or fails to end, for any arguments in any state. The document leaves free what is
 * answered behind the 512th call, so the answers are not looked at here; StormTest compares those of the first 512.
 */
public final class AnyCallTest {
    private static final int RUNS = 400, CALLS = 3000;
    private static final int[] EDGES = {Integer.MIN_VALUE, Integer.MIN_VALUE + 1, -65536, -256, -100, -2, -1, 10, 24, 39, 40, 41,
        77, 99, 100, 160, 321, 333, 998, 999, 1000, 9999, 10000, 102030, 999999, 1000000, 1 << 30, Integer.MAX_VALUE - 40,
        Integer.MAX_VALUE - 3, Integer.MAX_VALUE - 1, Integer.MAX_VALUE};
    private static final String[] WORDS = {"doubt", "price", "open", "or", "and", "not", "bars", "odd", "gap", "year", "made",
        "sold", "0", "7", "9999", "10000", "(", ")", ";", "+", "-", "*", "<", "=", " ", "\n", "?", "\u00ff", "x"};
    private static final String[] TEXTS = {"doubt year;price made*9999*9999;open sold-gap;",
        "doubt -year or odd;price not gap;open bars*999;", "doubt 99;price -(-(-(-(-9999))));open 1<2 and 2=2;",
        "doubt 0" + "+1".repeat(60) + ";price 1;open 1;"};
    private static final Due DUE = new Due("AnyCallTest");

    private final List<Method> methods;
    private final Random random;
    private final OldBottles x = new OldBottles();

    private AnyCallTest(List<Method> methods, int seed) {
        this.methods = methods;
        this.random = new Random(seed);
    }

    public static void main(String[] args) {
        List<Method> methods = new ArrayList<>();
        for (Method m : OldBottles.class.getDeclaredMethods()) {
            if (Modifier.isPublic(m.getModifiers())) {
                methods.add(m);
            }
        }
        // reflection tells them in no order of its own
        methods.sort(Comparator.comparing(Method::getName));
        DUE.is("methods", methods.size(), 31);
        for (int seed = 1; seed <= RUNS; seed++) {
            new AnyCallTest(methods, seed).run(seed);
        }
        DUE.end();
    }

    private void run(int seed) {
        for (int i = 0; i < seed % 9; i++) {
            x.wine(random.nextInt(100), random.nextInt(5), parts(), random.nextInt(1000000));
        }
        for (int i = 0; i < seed % 25; i++) {
            x.bottle(random.nextInt(6), random.nextInt(78), parts());
        }
        String thrown = "";
        for (int i = 0; i < CALLS && thrown.isEmpty(); i++) {
            thrown = random.nextInt(100) == 0 ? text() : call(methods.get(random.nextInt(methods.size())));
        }
        DUE.is("run " + seed + thrown, thrown.length(), 0);
    }

    private int parts() {
        return 100 * random.nextInt(4) + 10 * random.nextInt(4) + random.nextInt(4);
    }

    private int number() {
        switch (random.nextInt(8)) {
            case 0: return EDGES[random.nextInt(EDGES.length)];
            case 1: return random.nextInt();
            case 2: return random.nextInt(400);
            case 3: return random.nextInt(100);
            case 4: return random.nextInt(25);
            default: return random.nextInt(7);
        }
    }

    /** What it threw, or an empty text. */
    private String call(Method m) {
        Class<?>[] types = m.getParameterTypes();
        Object[] arguments = new Object[types.length];
        StringBuilder says = new StringBuilder(" " + m.getName());
        for (int i = 0; i < types.length; i++) {
            if (types[i] == long.class) {
                arguments[i] = random.nextLong();
            } else {
                arguments[i] = number();
            }
            says.append(" ").append(arguments[i]);
        }
        try {
            m.invoke(x, arguments);
            return "";
        } catch (InvocationTargetException e) {
            return says + " threw " + e.getCause();
        } catch (IllegalAccessException e) {
            return says + " is out of reach";
        }
    }

    /** Feeds a text that can be read, or a row of words that hardly can, and puts it in force. */
    private String text() {
        StringBuilder text = new StringBuilder();
        if (random.nextBoolean()) {
            text.append(TEXTS[random.nextInt(TEXTS.length)]);
        }
        for (int i = 0; text.length() == 0 || i < random.nextInt(30); i++) {
            text.append(WORDS[random.nextInt(WORDS.length)]);
        }
        try {
            x.text();
            x.force(Due.text(x, text.toString()));
            return "";
        } catch (RuntimeException e) {
            return " text of " + text + " threw " + e;
        }
    }
}
