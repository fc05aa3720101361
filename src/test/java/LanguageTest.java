import java.io.IOException;
import java.nio.file.Files;
import java.nio.file.Path;
import java.util.Set;
import java.util.TreeSet;
import java.util.regex.Matcher;
import java.util.regex.Pattern;

/** Those of the language's rules that can be seen in the text; run from the project's folder, as .ci/run does. */
public final class LanguageTest {
    private static final String[] NOWHERE = {
        "->", "::", "\\btry\\b", "\\bcatch\\b", "\\bfinally\\b", "\\bassert\\b", "\\bsynchronized\\b", "\\bpackage\\b",
        "Exact\\(", "\\bprotected\\b", "\\bstatic \\{", "\\.hashCode\\(", "\\.getMessage\\(", "\\bThread\\b", "\\bRandom\\b",
    };
    private static final Set<String> THROWN = Set.of("IllegalStateException", "IllegalArgumentException",
        "IndexOutOfBoundsException", "NoSuchElementException", "ArrayIndexOutOfBoundsException");

    private static Set<String> found(String text, String pattern) {
        Set<String> found = new TreeSet<>();
        Matcher matcher = Pattern.compile(pattern).matcher(text);
        while (matcher.find()) {
            found.add(matcher.group(matcher.groupCount()));
        }
        return found;
    }

    public static void main(String[] args) throws IOException {
        Check check = new Check();
        String text = Files.readString(Path.of("src/main/java/PageDisk.java")).replaceAll("(?s)/\\*.*?\\*/", "");
        for (String pattern : NOWHERE) {
            check.holds("no " + pattern, found(text, pattern).isEmpty());
        }
        check.holds("one import", found(text, "import (.*);").equals(Set.of("java.util.NoSuchElementException")));
        check.holds("exceptions of the document alone", THROWN.containsAll(found(text, "throw new (\\w+)\\(\"")));
        check.same("each throw makes its exception from a written text", text.split("\\bthrow\\b").length,
            text.split("throw new \\w+\\(\"").length);
        // Objects are made once, with the disk: calls that made more would fill the room of a long run.
        check.holds("no other objects than a new disk's", Set.of("Sectors", "OpenFile", "Versions", "Rows", "Numbers")
            .containsAll(found(text, "(?<!throw )new ([A-Z]\\w*)\\(")));
        check.done();
    }
}
