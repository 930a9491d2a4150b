import java.io.IOException;
import java.nio.file.Files;
import java.nio.file.Path;

/** What README.md shows: its example answers as it says there, and its rules' texts are right. */
public final class ReadmeTest {
    public static void main(String[] args) throws IOException {
        Checks checks = new Checks("ReadmeTest");
        example(checks);
        texts(checks, Files.readString(Path.of("README.md")));
        checks.end();
    }

    private static void example(Checks checks) {
        CheckRules2 x = new CheckRules2();
        for (char c : "hard tag 245 must: no title".toCharArray()) {
            x.sign(c);
        }
        int rule = x.rule();
        checks.due("rule()", rule, 0);
        int field = x.field(0, 1, 42);
        checks.due("field(0, 1, 42)", field, 1);
        checks.due("subfield(field, 'a', 7)", x.subfield(field, 'a', 7), 1);
        checks.dueRun("run(0)", x, 0, 1);
        checks.due("broken(0, 0)", x.broken(0, 0), 0);
        checks.due("message(0, 0)", x.message(0, 0), 'n');
        checks.due("except(rule, 0, 2)", x.except(rule, 0, 2), 1);
        checks.dueRun("run(0), spared", x, 0, 0);
        checks.dueRun("run(0), spared no more", x, 0, 1);
    }

    private static void texts(Checks checks, String readme) {
        String from = "```text\n";
        int start = readme.indexOf(from) + from.length();
        for (String text : readme.substring(start, readme.indexOf("```", start)).split("\n")) {
            checks.dueRight(text);
        }
    }
}
