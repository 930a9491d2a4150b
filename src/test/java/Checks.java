import java.util.Arrays;

/** What the tests share: comparing answers, and telling texts to an object sign by sign. */
final class Checks {
    private final String name;
    private String sentence = "";
    private int asked = 0;
    private int wrong = 0;

    Checks(String name) {
        this.name = name;
    }

    /** The document's sentence that the next answers belong to, so that a failure names it. */
    void sentence(String words) {
        sentence = " (" + words + ")";
    }

    void due(String call, long got, long want) {
        asked++;
        if (got != want) {
            wrong++;
            System.out.println(name + sentence + ": " + call + " answered " + got + ", due is " + want);
        }
    }

    void due(String call, boolean got, boolean want) {
        due(call, got ? 1L : 0L, want ? 1L : 0L);
    }

    /** A run that must end with an answer. */
    void dueRun(String call, CheckRules2 x, int record, int want) {
        try {
            due(call, x.run(record), want);
        } catch (ArithmeticException e) {
            due(call + " throws", true, false);
        }
    }

    /** A run that must throw. */
    void dueThrow(String call, CheckRules2 x, int record) {
        boolean thrown = false;
        try {
            x.run(record);
        } catch (ArithmeticException e) {
            thrown = true;
        }
        due(call + " throws", thrown, true);
    }

    /** The place at which a text is wrong, on an object of its own. */
    void dueWrong(String text, int place) {
        due("rule \"" + text + "\"", tell(new CheckRules2(), text), -1L - place);
    }

    void dueRight(String text) {
        due("rule \"" + text + "\"", tell(new CheckRules2(), text), 0);
    }

    /** Whether a TEST holds for record 0, told and negated; fields are rows of tag and value. */
    void dueHolds(String test, boolean want, int... fields) {
        CheckRules2 x = with("hard " + test, "hard not " + test);
        // Another record's fields must not count.
        for (int tag = 0; tag < 5; tag++) {
            x.field(1, tag, 77);
        }
        for (int i = 0; i + 1 < fields.length; i += 2) {
            x.field(0, fields[i], fields[i + 1]);
            x.field(2, fields[i], fields[i + 1]);
        }
        String call = test + " of " + Arrays.toString(fields);
        dueRun(call, x, 0, 1);
        due(call, x.broken(0, 0), want ? 1 : 0);
    }

    void end() {
        System.out.println(name + ": " + asked + " answers, " + wrong + " not as due");
        if (wrong != 0) {
            System.exit(1);
        }
    }

    static void collect(CheckRules2 x, String text) {
        for (int i = 0; i < text.length(); i++) {
            x.sign(text.charAt(i));
        }
    }

    static int tell(CheckRules2 x, String text) {
        collect(x, text);
        return x.rule();
    }

    /** A new object with these rules. */
    static CheckRules2 with(String... texts) {
        CheckRules2 x = new CheckRules2();
        for (String text : texts) {
            if (tell(x, text) < 0) {
                System.out.println("a test's own rule is wrong: " + text);
                System.exit(1);
            }
        }
        return x;
    }

    /** The message of a broken rule, read to its end. */
    static String messageOf(CheckRules2 x, int i) {
        StringBuilder text = new StringBuilder();
        for (int c = 0; x.message(i, c) != CheckRules2.NONE; c++) {
            text.append((char) x.message(i, c));
        }
        return text.toString();
    }
}
