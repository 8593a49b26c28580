import java.io.IOException;
import java.nio.charset.StandardCharsets;
import java.nio.file.Files;
import java.nio.file.Path;
import java.util.ArrayList;
import java.util.List;
import java.util.regex.Matcher;
import java.util.regex.Pattern;

/** The code of README.md, line for line, answers what stands behind it. Run from the project's folder. */
public final class ReadmeTest {
    private static final Pattern ANSWER = Pattern.compile("int (\\w+) = b\\..*; +// (-?\\d+):.*");
    private static final Path README = Path.of("README.md");
    private static final Path SELF = Path.of("src/test/java/ReadmeTest.java");

    private final List<String> names = new ArrayList<>();
    private final List<Integer> answers = new ArrayList<>();

    private ReadmeTest() {
    }

    public static void main(String[] args) throws IOException {
        ReadmeTest test = new ReadmeTest();
        test.code();
        test.compareWithReadme();
        test.namesEachTest();
        Checks.end("ReadmeTest");
    }

    private void code() {
        // begin
        BlameChains b = new BlameChains();
        b.add(2, 1);
        b.own(0, -10, 10, -15, 15);
        b.add(3, -4);
        b.chain(1, 0, 2);
        int given = b.call(1, 5);
        int none = b.call(1, 6);
        int kind = b.blame(0, 0);
        int part = b.blame(0, 2);
        int number = b.blame(0, 3);
        int height = b.blame(0, 4);
        int blamed = b.would(1, 6, 2);
        int widest = b.reach(1, 5, true);
        int saved = b.save(0);
        b.link(1, 0, -10, 10, -20, 20);
        int holes = b.holes();
        b.net(1, 50);
        int caught = b.call(1, 6);
        int left = b.undo();
        int first = b.runScript(2, 1150521506L);
        int again = b.restore(0);
        String plan = "Cn+02+01o0-10+10-15+15n+03-04s10+02k+05";
        b.clearText();
        for (int i = 0; i < plan.length(); i++) {
            b.append(plan.charAt(i));
        }
        int error = b.errorPosition();
        int leftOut = b.load();
        // end
        answer("given", given);
        answer("none", none);
        answer("kind", kind);
        answer("part", part);
        answer("number", number);
        answer("height", height);
        answer("blamed", blamed);
        answer("widest", widest);
        answer("saved", saved);
        answer("holes", holes);
        answer("caught", caught);
        answer("left", left);
        answer("first", first);
        answer("again", again);
        answer("error", error);
        answer("leftOut", leftOut);
        Checks.due("the plan's call", 1, b.about(4));
        Checks.due("the plan's parts give the same", given, b.would(1, 5, 0));
        Checks.due("and bring the same blame", blamed, b.would(1, 6, 2));
    }

    private void answer(String name, int answer) {
        names.add(name);
        answers.add(answer);
    }

    private void compareWithReadme() throws IOException {
        List<String> told = readmeCode();
        List<String> done = ownCode();
        Checks.due("lines of code", done.size(), told.size());
        int found = 0;
        for (int i = 0; i < Math.min(told.size(), done.size()); i++) {
            String line = told.get(i);
            if (!line.replaceAll(" +// .*", "").equals(done.get(i))) {
                Checks.fail("README.md has \"" + line + "\", the test \"" + done.get(i) + "\"");
            }
            Matcher matcher = ANSWER.matcher(line);
            if (matcher.matches()) {
                int at = names.indexOf(matcher.group(1));
                Checks.due("the place of " + matcher.group(1), found, at);
                Checks.due(line, Integer.parseInt(matcher.group(2)), answers.get(found));
                found++;
            }
        }
        Checks.due("answers that README.md tells", answers.size(), found);
    }

    private static List<String> readmeCode() throws IOException {
        return between(README, "```java", "```");
    }

    private static List<String> ownCode() throws IOException {
        return between(SELF, "// begin", "// end");
    }

    private static List<String> between(Path file, String begin, String end) throws IOException {
        List<String> lines = new ArrayList<>();
        boolean inside = false;
        for (String line : Files.readAllLines(file, StandardCharsets.UTF_8)) {
            String text = line.strip();
            if (inside && text.equals(end)) {
                inside = false;
            } else if (inside) {
                lines.add(text);
            } else if (text.equals(begin)) {
                inside = true;
            }
        }
        return lines;
    }

    private void namesEachTest() throws IOException {
        String readme = Files.readString(README, StandardCharsets.UTF_8);
        try (var files = Files.list(SELF.getParent())) {
            files.map(file -> file.getFileName().toString()).filter(name -> name.endsWith("Test.java")).forEach(name -> {
                if (!readme.contains("- `" + name.replace(".java", "") + "`: ")) {
                    Checks.fail("README.md does not name " + name);
                }
            });
        }
    }
}
