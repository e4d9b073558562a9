import java.io.IOException;
import java.nio.file.Files;
import java.nio.file.Path;
import java.util.ArrayList;
import java.util.List;
import java.util.regex.Matcher;
import java.util.regex.Pattern;

/** README.md lists each call of the document's face, and its example answers what it says. */
public final class ReadmeTest {
    private static final Check CHECK = new Check();

    public static void main(String[] args) throws IOException {
        String readme = Files.readString(Path.of("README.md"));
        calls(readme, Files.readString(Path.of("../shared/DOC.md")));
        example(readme);
        tests(readme);
        CHECK.end();
    }

    private static List<String> found(String pattern, String text) {
        List<String> all = new ArrayList<>();
        Matcher matcher = Pattern.compile(pattern, Pattern.MULTILINE).matcher(text);
        while (matcher.find()) {
            all.add(matcher.group(1));
        }
        return all;
    }

    private static void calls(String readme, String document) {
        CHECK.promise("the calls of README.md");
        List<String> face = new ArrayList<>();
        for (String call : found("^    public \\w+ (\\w+\\(.*\\));", document)) {
            face.add(call.replaceAll("(int|long|boolean) ", ""));
        }
        CHECK.due(face.size(), 35);
        CHECK.alike(String.join("\n", found("^\\| `(\\w+\\(.*?\\))` \\|", readme)), String.join("\n", face));
    }

    private static void example(String readme) {
        CHECK.promise("the example of README.md");
        DecisionArrays x = new DecisionArrays();
        List<String> done = new ArrayList<>();
        int a = x.array(4, 3);
        done.add("int a = x.array(4, 3); " + a);
        int d = x.decide(a, 0, 0, 0, 0);
        done.add("int d = x.decide(a, 0, 0, 0, 0); " + d);
        done.add("x.span(d, 1, 5, 1); " + x.span(d, 1, 5, 1));
        done.add("x.write(a, 1, 0, 0, 0, 4, 3); " + x.write(a, 1, 0, 0, 0, 4, 3));
        done.add("x.rule(0, a, 1, 7, 7); " + x.rule(0, a, 1, 7, 7));
        done.add("x.score(); " + x.score());
        done.add("x.best(); " + x.best());
        done.add("x.read(a, 0, 0, 0, 0, 5); " + x.read(a, 0, 0, 0, 0, 5));
        done.add("x.read(a, 3, 0, 0, 0, 5); " + x.read(a, 3, 0, 0, 0, 5));
        done.add("x.code(); " + x.code());
        List<String> told = new ArrayList<>();
        for (String line : found("^(.*; +// -?\\d+): ", readme)) {
            told.add(line.replaceAll(" +// ", " "));
        }
        CHECK.alike(String.join("\n", done), String.join("\n", told));
    }

    private static void tests(String readme) throws IOException {
        CHECK.promise("the tests that README.md names");
        try (var files = Files.list(Path.of("src/test/java"))) {
            for (Path file : files.sorted().toList()) {
                String name = file.getFileName().toString().replace(".java", "");
                CHECK.alike(readme.contains("`" + name + "`") ? name : "nothing", name);
            }
        }
    }
}
