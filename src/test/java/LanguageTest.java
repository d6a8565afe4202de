import java.io.IOException;
import java.nio.file.Files;
import java.nio.file.Path;

/** A coarse look at the source for what LANGUAGE.md leaves out; it does not replace reading it. */
public final class LanguageTest {
    private static final String[] LEFT_OUT = {
        "->", "::", "import ", "package ", "synchronized", "assert ", "finally", "catch", "static {",
        "instanceof", "System.", "Thread", "Exact(", "equals(", "hashCode", "toString", "getMessage",
        "\" +", "+ \"", "protected", "volatile", "native ", "float ", "double ",
    };

    public static void main(String[] args) throws IOException {
        Due due = new Due("LanguageTest");
        String source = Files.readString(Path.of("src/main/java/PisteLine.java"));
        for (String word : LEFT_OUT) {
            due.is("the source has " + word, source.contains(word), false);
        }
        for (int i = 0; i < source.length(); i++) {
            if (source.charAt(i) > 126) {
                due.is("the sign at " + i, source.charAt(i), ' ');
            }
        }
        due.end();
    }
}
