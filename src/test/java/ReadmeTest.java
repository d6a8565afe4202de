import java.io.IOException;
import java.nio.file.Files;
import java.nio.file.Path;
import java.util.ArrayList;
import java.util.List;

/** The example of README.md stands here line by line, and answers what it says there. */
public final class ReadmeTest {
    private static final Due DUE = new Due("ReadmeTest");
    private static final String REMARK = " // ";

    public static void main(String[] args) throws IOException {
        example();
        compare(shown(Files.readAllLines(Path.of("README.md"))),
            Files.readAllLines(Path.of("src/test/java/ReadmeTest.java")));
        DUE.end();
    }

    private static void example() {
        PisteLine hall = new PisteLine(PisteLine.FOIL);
        int anna = hall.fencer();
        DUE.is("anna", anna, 0);
        int berta = hall.fencer();
        DUE.is("berta", berta, 1);
        int blue = hall.weapon(anna);
        DUE.is("blue", blue, 0);
        int red = hall.weapon(berta);
        DUE.is("red", red, 1);
        boolean isGood = hall.test(blue, 600, 10);
        DUE.is("blue is good", isGood, true);
        hall.test(red, 640, 12);

        int bouts = hall.drawPools(1);
        DUE.is("bouts", bouts, 1);
        hall.begin(0, blue, red);
        hall.allez();
        hall.right(1, 5);
        hall.contact(0, true, 100);
        hall.contact(1, true, 350);
        int touches = hall.halt();
        DUE.is("touches by the box", touches, 2);
        touches = hall.appeal(0, 0);
        DUE.is("touches by the bench", touches, 1);
        int score = hall.score(0, 0);
        DUE.is("score", score, 1);
        int left = hall.appeals(0, 0);
        DUE.is("appeals left", left, 2);
        for (int i = 0; i < 2; i++) {
            hall.allez();
            hall.contact(0, true, 0);
            hall.halt();
        }
        int winner = hall.winner(0);
        DUE.is("winner of the pool's bout", winner, 0);
        int best = hall.rankedAt(0);
        DUE.is("who ranks first", best, 0);

        int size = hall.drawTableau();
        DUE.is("size", size, 2);
        hall.begin(101, blue, red);
        hall.allez();
        hall.contact(1, true, 0);
        touches = hall.halt();
        DUE.is("touches in the tableau", touches, 2);
        isGood = hall.test(red, 640, 40);
        DUE.is("red is good", isGood, false);
        touches = hall.touches(101, 0);
        DUE.is("touches that are left", touches, 0);
        winner = hall.nodeWinner(1);
        DUE.is("winner of the tableau", winner, -1);
    }

    /** The lines of the first block of Java. */
    private static List<String> shown(List<String> page) {
        List<String> lines = new ArrayList<>();
        for (String line : page.subList(page.indexOf("```java") + 1, page.size())) {
            if (line.startsWith("```")) {
                break;
            }
            if (!line.isBlank()) {
                lines.add(line.strip());
            }
        }
        return lines;
    }

    /** Each line shown stands in the source, in order, and behind it the answer that its remark tells. */
    private static void compare(List<String> shown, List<String> source) {
        int at = 0;
        for (String line : shown) {
            int remark = line.indexOf(REMARK);
            String code = remark < 0 ? line : line.substring(0, remark).strip();
            while (at < source.size() && !source.get(at).strip().equals(code)) {
                at++;
            }
            DUE.is("stands here: " + code, at < source.size(), true);
            at++;
            String told = remark < 0 ? "" : line.substring(remark + REMARK.length()).split("[:,]")[0];
            if (told.matches("-?\\d+|true|false")) {
                boolean isHeld = at < source.size() && source.get(at).strip().endsWith(", " + told + ");");
                DUE.is("is held: " + line, isHeld, true);
            }
        }
        DUE.is("the example was read", shown.size() > 20, true);
    }
}
