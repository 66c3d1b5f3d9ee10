import java.io.IOException;
import java.nio.file.Files;
import java.nio.file.Path;
import java.util.regex.Matcher;
import java.util.regex.Pattern;

/** What README.md says that its calls answer; each of its lines stands here, and none is left out. */
public final class ReadmeTest {
    private static final Due DUE = new Due("ReadmeTest");
    private static String readme;
    private static int lines;

    public static void main(String[] args) throws IOException {
        readme = Files.readString(Path.of("README.md"));
        OldBottles x = new OldBottles();
        bottles(x);
        text(x);
        sheet(x);
        Matcher answers = Pattern.compile("(?m)^x\\..*; *// -?\\d").matcher(readme);
        int told = 0;
        while (answers.find()) {
            told++;
        }
        DUE.is("lines of README.md that tell an answer", lines, told);
        DUE.end();
    }

    private static void says(String call, long answer, long got) {
        lines++;
        boolean stands = Pattern.compile("(?m)^" + Pattern.quote(call) + " *// " + answer + "(:.*)?$").matcher(readme).find();
        DUE.is("README.md says " + call + " // " + answer, stands ? 1 : 0, 1);
        DUE.is(call, got, answer);
    }

    private static void bottles(OldBottles x) {
        says("x.wine(45, 3, 123, 102030);", 0, x.wine(45, 3, 123, 102030));
        says("x.wine(60, 9, 0, 908070);", 1, x.wine(60, 9, 0, 908070));
        says("x.bottle(2, 1, 321);", 0, x.bottle(2, 1, 321));
        says("x.bottle(1, 0, 0);", 1, x.bottle(1, 0, 0));
        says("x.shows(0, 0);", 1, x.shows(0, 0));
        says("x.told(0, 3);", 4, x.told(0, 3));
        says("x.book(2, 1, 50, 99);", 1, x.book(2, 1, 50, 99));
        says("x.told(0, 4);", 1, x.told(0, 4));
        says("x.sale(0, 12, 300, 60);", 0, x.sale(0, 12, 300, 60));
        says("x.owed(2);", 300, x.owed(2));
        says("x.odds(1, 0);", 500, x.odds(1, 0));
        says("x.odds(1, 1);", 501, x.odds(1, 1));
    }

    private static void text(OldBottles x) {
        String text = "doubt odd * 30; price year * 10; open 5;";
        DUE.is("README.md feeds the text", readme.contains("\"" + text + "\".toCharArray()") ? 1 : 0, 1);
        for (char c : text.toCharArray()) {
            x.feed(1, c);
        }
        says("x.text();", 1, x.text());
        says("x.force(1);", 0, x.force(1));
        says("x.told(1, 9);", 450, x.told(1, 9));
    }

    private static void sheet(OldBottles x) {
        says("x.image();", 1, x.image());
        says("x.sheet(0, 1, 8);", 1, x.sheet(0, 1, 8));
        DUE.is("README.md has the row", readme.contains("int[] row = {1, 12, 500, 61, 1, 24, 650, 62};") ? 1 : 0, 1);
        int[] row = {1, 12, 500, 61, 1, 24, 650, 62};
        for (int i = 0; i < 8; i++) {
            x.cell(0, i, row[i]);
        }
        says("x.sales(0, 1, 0, 2);", 2, x.sales(0, 1, 0, 2));
        says("x.chain(1);", 2, x.chain(1));
        says("x.back();", 1, x.back());
        says("x.chain(1);", 0, x.chain(1));
    }
}
