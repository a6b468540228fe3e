import java.io.IOException;
import java.nio.file.Files;
import java.nio.file.Path;
import java.util.regex.Matcher;
import java.util.regex.Pattern;

/** Some rules of LANGUAGE.md that can be told from the text of the class: 2, 4, 5, 6, 10, 13, and the names of 1. */
public final class SourceTest {
    private static final Checks C = new Checks("SourceTest");

    public static void main(String[] args) throws IOException {
        String source = Files.readString(Path.of("src/main/java/TriggerLoom.java"))
                .replaceAll("//.*", "").replaceAll("(?s)/\\*.*?\\*/", "");
        absent(source, "\\b(throw|throws|try|catch|synchronized|assert|import|package|protected|hashCode|toString)\\b");
        absent(source, "\\b(System|Thread|Random|Exception|Error|Object|record|double|float)\\b");
        absent(source, "->|::|\"");
        absent(source, "(?m)^    static (?!final class)");
        absent(source, "\\bstatic (?!final)(int|long|boolean|char|byte|Trigger|Node)\\b[^(]*;");
        absent(source, "(?<!public )\\bint (feed|cut|read|fault|node|arm|sample|holds|waits|held|when|at|grab|caught|runs|run"
                + "|squeezed|frames|bytes|mark|sendFrame|sendByte|total)\\(");
        absent(source, "\\b(void|boolean) (feed|cut|read|fault|node|arm|sample|holds|waits|held|when|at|grab|caught|runs|run"
                + "|squeezed|frames|bytes|mark|sendFrame|sendByte|total)\\(");
        C.finish();
    }

    private static void absent(String source, String pattern) {
        Matcher found = Pattern.compile(pattern).matcher(source);
        C.due(pattern, found.find() ? 1 : 0, 0);
    }
}
