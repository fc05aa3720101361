import java.io.IOException;
import java.lang.reflect.Method;
import java.lang.reflect.Modifier;
import java.nio.file.Files;
import java.nio.file.Path;
import java.util.ArrayList;
import java.util.List;
import java.util.regex.Matcher;
import java.util.regex.Pattern;

/** README.md tells the class as it is; run from the project's folder, as .ci/run does. */
public final class ReadmeTest {
    private static final Check CHECK = new Check();
    private static final Pattern SHOWN = Pattern.compile("(?m)^disk\\.(.*);  +// (-?\\d+): ");

    private static void example(String readme) {
        List<String> shown = new ArrayList<>();
        Matcher line = SHOWN.matcher(readme);
        while (line.find()) {
            shown.add(line.group(1) + " is " + line.group(2));
        }
        List<String> answered = answers(new PageDisk(40));
        CHECK.holds("the example " + shown + " answers " + answered, shown.equals(answered));
    }

    private static List<String> answers(PageDisk disk) {
        List<String> answers = new ArrayList<>();
        answers.add("file(7) is " + disk.file(7));
        answers.add("append(7, (byte) 65) is " + disk.append(7, (byte) 65));
        answers.add("end(7) is " + disk.end(7));
        answers.add("row(4, 99L) is " + disk.row(4, 99L));
        answers.add("state(0, 3) is " + disk.state(0, 3));
        answers.add("space(2) is " + disk.space(2));
        answers.add("sync() is " + disk.sync());
        answers.add("row(5, 100L) is " + disk.row(5, 100L));
        answers.add("cut(0, 20) is " + disk.cut(0, 20));
        answers.add("poke(4, 7, 1) is " + disk.poke(4, 7, 1));
        answers.add("start() is " + disk.start());
        answers.add("at(7, 1, 0) is " + disk.at(7, 1, 0));
        answers.add("wrong(-1) is " + disk.wrong(-1));
        answers.add("wrong(0) is " + disk.wrong(0));
        answers.add("space(4) is " + disk.space(4));
        return answers;
    }

    /** Each call has a line of the table, with the exceptions of its face in their order. */
    private static void table(String readme) {
        for (Method method : PageDisk.class.getDeclaredMethods()) {
            if (!Modifier.isPublic(method.getModifiers())) {
                continue;
            }
            StringBuilder throwing = new StringBuilder();
            for (Class<?> thrown : method.getExceptionTypes()) {
                throwing.append("`").append(thrown.getSimpleName()).append("`: [^`|]*");
            }
            String line = "(?m)^\\| `" + method.getName() + "\\(.*\\)` \\| [^|]+ \\| " + throwing + "\\|$";
            CHECK.holds("the table's line of " + method.getName(), Pattern.compile(line).matcher(readme).find());
        }
    }

    private static void tests(String readme) throws IOException {
        try (var files = Files.list(Path.of("src/test/java"))) {
            files.map(file -> file.getFileName().toString().replace(".java", ""))
                .forEach(name -> CHECK.holds("README.md tells of " + name, readme.contains("`" + name + "`")));
        }
    }

    public static void main(String[] args) throws IOException {
        String readme = Files.readString(Path.of("README.md"));
        example(readme);
        table(readme);
        tests(readme);
        CHECK.done();
    }
}
