/** Counts the answers that are not due, for the tests beside it. */
final class Due {
    private final String test;
    private int calls;
    private int wrong;

    Due(String test) {
        this.test = test;
    }

    void is(String call, long got, long want) {
        calls++;
        if (got != want) {
            wrong++;
            System.out.println(test + ": " + call + " answered " + got + ", due is " + want);
        }
    }

    /** Feeds a text, eight bytes a call; what the last feed answered. */
    static int feed(OldBottles x, String text) {
        int answer = 0;
        for (int at = 0; at < text.length(); at += 8) {
            long bytes = 0;
            int n = Math.min(8, text.length() - at);
            for (int i = 0; i < n; i++) {
                bytes |= (text.charAt(at + i) & 255L) << (8 * i);
            }
            answer = x.feed(n, bytes);
        }
        return answer;
    }

    static int text(OldBottles x, String text) {
        feed(x, text);
        return x.text();
    }

    void end() {
        System.out.println(test + ": " + calls + " answers, " + wrong + " not as due");
        if (wrong != 0) {
            System.exit(1);
        }
    }
}
