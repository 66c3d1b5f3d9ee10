import java.io.IOException;
import java.nio.file.Files;
import java.nio.file.Path;

/** Tests of single sentences of the document: each has an object of its own and bears the words that it holds to. */
final class Sentences {
    /** What is asked of an object that was made for it. */
    interface Test {
        void on(OldBottles x);
    }

    /** One call, of which one number is tried. */
    interface Call {
        long with(int v);
    }

    /** More wrong answers of one sentence are counted, but not told. */
    private static final int TOLD = 5;
    private static final Path DOCUMENT = Path.of("../shared/DOC.md");

    private final String test;
    private final String document;
    private String words = "";
    private int sentences;
    private int answers;
    private int wrong;
    private int wrongOfThis;

    Sentences(String test) {
        this.test = test;
        this.document = bare(documentText());
    }

    private static String documentText() {
        try {
            return Files.readString(DOCUMENT);
        } catch (IOException e) {
            System.out.println(DOCUMENT + " can't be read: the words of the tests are not looked up");
            return null;
        }
    }

    private static String bare(String text) {
        return text == null ? null : text.replaceAll("\\s+", " ");
    }

    /** What the words say, as asked of a new object; the words must stand in the document just so. */
    void hold(String theWords, Test asked) {
        sentences++;
        wrongOfThis = 0;
        words = theWords;
        if (document != null && !document.contains(bare(theWords))) {
            wrong++;
            System.out.println(test + ": the document does not say \"" + theWords + "\"");
        }
        asked.on(new OldBottles());
    }

    void due(long got, long want) {
        answers++;
        if (got != want) {
            wrong++;
            wrongOfThis++;
            if (wrongOfThis <= TOLD) {
                System.out.println(test + ": \"" + words + "\":" + lines() + " answered " + got + ", due is " + want);
            }
        }
    }

    /** Each of some numbers is refused alike. */
    void refused(long want, int[] numbers, Call call) {
        for (int v : numbers) {
            long got = call.with(v);
            if (got != want && wrongOfThis < TOLD) {
                System.out.print("of " + v + ": ");
            }
            due(got, want);
        }
    }

    /** Numbers that are not from least to most: next to its ends, some that end in the same bits, and the farthest. */
    static int[] beyond(int least, int most) {
        return new int[] {least - 1, most + 1, least - 256, most + 256, least - 65536, most + 65536, Integer.MIN_VALUE,
            Integer.MIN_VALUE + 1, Integer.MIN_VALUE + least, Integer.MIN_VALUE + most, Integer.MAX_VALUE - 1,
            Integer.MAX_VALUE};
    }

    private String lines() {
        StringBuilder lines = new StringBuilder();
        for (StackTraceElement e : new Throwable().getStackTrace()) {
            if (e.getClassName().equals(test) && !e.getMethodName().equals("main")) {
                lines.append(" line ").append(e.getLineNumber());
            }
        }
        return lines.toString();
    }

    void end() {
        System.out.println(test + ": " + sentences + " sentences, " + answers + " answers, " + wrong + " not as due");
        if (wrong != 0) {
            System.exit(1);
        }
    }
}
