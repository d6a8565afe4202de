import java.io.IOException;
import java.lang.reflect.Method;
import java.nio.file.Files;
import java.nio.file.Path;
import java.util.ArrayList;
import java.util.List;
import java.util.Set;
import java.util.TreeSet;

/** Each sentence of the document is held by a test, or stands here as one that names nothing to hold. */
public final class SentenceTest {
    private static final Path DOCUMENT = Path.of("../shared/DOC.md");
    private static final List<Class<?>> TESTS = List.of(FencersTest.class, PisteTest.class, JudgingTest.class,
        ScoreTest.class, BenchTest.class, PoolsTest.class, TableauTest.class, RefusalTest.class);
    /** What only leads to other sentences, or tells how the face is laid out, which FaceTest compares. */
    private static final Set<String> NOTHING_TO_HOLD = Set.of(
        "A fencing hall: weapons that are tested, a box that judges touches by lock-out and right of way, a bench that "
            + "takes touches back, pools, their ranks, and a tableau that is drawn from these.",
        "A phrase is judged like this.");
    private static final String LAYOUT = "Ahead of the calls ";

    private final Set<String> sentences = new TreeSet<>();
    private String head = "";
    private final StringBuilder paragraph = new StringBuilder();
    private boolean isCode;

    public static void main(String[] args) throws IOException {
        if (!Files.isReadable(DOCUMENT)) {
            System.out.println("SentenceTest: there is no " + DOCUMENT + " to compare with");
            return;
        }
        Due due = new Due("SentenceTest");
        Set<String> held = new TreeSet<>();
        for (Class<?> tests : TESTS) {
            for (Method method : tests.getDeclaredMethods()) {
                Sentence sentence = method.getAnnotation(Sentence.class);
                if (sentence != null) {
                    held.addAll(List.of(sentence.value()));
                }
            }
        }
        Set<String> told = new SentenceTest().read();
        for (String sentence : told) {
            boolean isHeld = held.contains(sentence) || NOTHING_TO_HOLD.contains(sentence)
                || sentence.startsWith(LAYOUT);
            due.is("held by a test: " + sentence, isHeld, true);
        }
        for (String sentence : held) {
            due.is("stands in the document: " + sentence, told.contains(sentence), true);
        }
        due.is("the document was read", told.size() > 150, true);
        due.end();
    }

    private Set<String> read() throws IOException {
        for (String line : Files.readAllLines(DOCUMENT)) {
            if (line.startsWith("```")) {
                isCode = !isCode;
            } else if (line.startsWith("#")) {
                endParagraph();
                head = line.replaceFirst("^#+ ", "");
            } else if (line.isBlank()) {
                endParagraph();
            } else if (!isCode) {
                paragraph.append(line.strip()).append(' ');
            }
        }
        endParagraph();
        return sentences;
    }

    private void endParagraph() {
        String text = paragraph.toString().replace("`", "").strip();
        paragraph.setLength(0);
        if (text.isEmpty() || head.equals("Not promised")) {
            return;
        }
        if (!head.startsWith("Promise ")) {
            sentences.addAll(List.of(text.split("(?<=[.)])\\s+(?=[A-Z(])")));
            return;
        }
        String number = head.substring("Promise ".length(), head.indexOf(':'));
        for (String item : items(text)) {
            sentences.add(number + ": " + item);
        }
    }

    /** The lines of a list one by one; of the line with the declaration only what stands behind it. */
    private static List<String> items(String text) {
        List<String> items = new ArrayList<>();
        if (text.startsWith("- ")) {
            for (String item : text.substring(2).split(" - ")) {
                items.add(item.strip());
            }
        } else if (text.matches("^((int|boolean) )?\\w+\\([^)]*\\)( throws [\\w, ]+)?: .*")) {
            items.add(text.substring(text.indexOf(": ") + 2));
        } else {
            items.add(text);
        }
        return items;
    }
}
