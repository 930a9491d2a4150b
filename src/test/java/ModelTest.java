import java.util.Random;

/** Runs of calls by chance, of at most 512: the class answers as the document's plain model does. */
public final class ModelTest {
    private static final int RUNS = 4000;
    private static final int CALLS = 512;
    private static final int THROWN = 1000000;

    private final Checks checks;
    private final Random random;
    private final AnyText texts;
    private final CheckRules2 x = new CheckRules2();
    private final Model model = new Model();
    private final String name;
    private int called = 0;

    private ModelTest(Checks checks, int seed) {
        this.checks = checks;
        this.random = new Random(seed);
        this.texts = new AnyText(random);
        this.name = "seed " + seed + ", ";
    }

    public static void main(String[] args) {
        Checks checks = new Checks("ModelTest");
        for (int seed = 0; seed < RUNS; seed++) {
            new ModelTest(checks, seed).calls();
        }
        checks.end();
    }

    private void calls() {
        // A run of one kind or the other: many rules, or rather many fields.
        int textsInHundred = random.nextInt(2) == 0 ? 30 : 4;
        while (called < CALLS) {
            if (random.nextInt(100) < textsInHundred || called == 0) {
                tell(texts.next());
            } else {
                called++;
                call();
            }
        }
    }

    private void tell(String text) {
        called += text.length() + 1;
        if (called > CALLS) {
            return;
        }
        int wrap = random.nextInt(5) == 0 ? 256 * random.nextInt() : 0;
        for (int i = 0; i < text.length(); i++) {
            x.sign(text.charAt(i) + wrap);
            model.sign(text.charAt(i) + wrap);
        }
        due("rule() of \"" + text + "\"", x.rule(), model.rule());
    }

    private void call() {
        int kind = random.nextInt(20);
        if (kind < 6) {
            fieldOrSubfield();
        } else if (kind < 10) {
            int record = record();
            due("run(" + record + ")", runOf(x, record), runOf(model, record));
        } else if (kind < 15) {
            askTheLatestRun();
        } else {
            askTheRules();
        }
    }

    private void fieldOrSubfield() {
        if (random.nextInt(3) > 0) {
            int record = record();
            int tag = random.nextInt(12) == 0 ? random.nextInt(1010) - 5 : random.nextInt(4);
            int value = value();
            due("field(" + record + ", " + tag + ", " + value + ")",
                    x.field(record, tag, value), model.field(record, tag, value));
        } else {
            int field = random.nextInt(30) - 1;
            int code = random.nextInt(9) == 0 ? random.nextInt(256) : "abz".charAt(random.nextInt(3));
            int value = value();
            due("subfield(" + field + ", " + code + ", " + value + ")",
                    x.subfield(field, code, value), model.subfield(field, code, value));
        }
    }

    private void askTheLatestRun() {
        int i = random.nextInt(6) - 1;
        if (random.nextBoolean()) {
            int what = random.nextInt(5) - 1;
            due("broken(" + i + ", " + what + ")", x.broken(i, what), model.broken(i, what));
        } else {
            int c = random.nextInt(10) - 1;
            due("message(" + i + ", " + c + ")", x.message(i, c), model.message(i, c));
        }
    }

    private void askTheRules() {
        int i = random.nextInt(7) - 1;
        int record = record();
        switch (random.nextInt(4)) {
            case 0:
                due("warning(" + record + ", " + i + ")", x.warning(record, i), model.warning(record, i));
                break;
            case 1:
                due("never(" + i + ")", x.never(i), model.never(i));
                break;
            case 2:
                boolean on = random.nextInt(3) > 0;
                checks.due(name + "throwsUp(" + i + ", " + on + ")", x.throwsUp(i, on), model.throwsUp(i, on));
                break;
            default:
                long until = random.nextInt(5) == 0 ? random.nextLong() : random.nextInt(40) - 2;
                due("except(" + i + ", " + record + ", " + until + ")",
                        x.except(i, record, until), model.except(i, record, until));
                break;
        }
    }

    private int record() {
        return random.nextInt(12) == 0 ? random.nextInt(24) - 2 : random.nextInt(2);
    }

    private int value() {
        return random.nextInt(8) == 0 ? random.nextInt() : random.nextInt(24) - 4;
    }

    private static int runOf(CheckRules2 x, int record) {
        try {
            return x.run(record);
        } catch (ArithmeticException e) {
            return THROWN;
        }
    }

    private static int runOf(Model model, int record) {
        try {
            return model.run(record);
        } catch (ArithmeticException e) {
            return THROWN;
        }
    }

    private void due(String call, int got, int want) {
        checks.due(name + "call " + called + ": " + call, got, want);
    }
}
