/** Promises 6, 7 and 12: run, broken and message. */
public final class RunTest {
    public static void main(String[] args) {
        Checks checks = new Checks("RunTest");
        counts(checks);
        brokenTells(checks);
        firstField(checks);
        noRecord(checks);
        thrown(checks);
        manyRules(checks);
        messages(checks);
        checks.end();
    }

    private static void counts(Checks checks) {
        CheckRules2 x = Checks.with("hard tag 1 must", "warn tag 2 must", "hard tag 3 once", "warn tag 4 must");
        checks.dueRun("hard ones and warnings", x, 0, 3);
        x.field(0, 1, 1);
        x.field(1, 2, 1);
        checks.dueRun("record 0", x, 0, 2);
        checks.dueRun("record 1", x, 1, 2);
        checks.dueRun("record 19", x, 19, 3);
        x.field(0, 2, 1);
        x.field(0, 4, 1);
        checks.dueRun("none is broken", x, 0, 0);
        checks.due("none is broken", x.broken(0, 0), -1);
    }

    private static void brokenTells(Checks checks) {
        CheckRules2 x = Checks.with("hard tag 1 once", "warn tag 2 must", "hard tag 3 must", "warn tag 4 must");
        checks.due("before a run", x.broken(0, 0), -1);
        checks.dueRun("run", x, 5, 3);
        int[] numbers = {1, 2, 3};
        int[] hard = {0, 1, 0};
        for (int i = 0; i < 3; i++) {
            checks.due("number", x.broken(i, 0), numbers[i]);
            checks.due("hard", x.broken(i, 1), hard[i]);
            checks.due("field", x.broken(i, 2), 0);
            checks.due("what 3", x.broken(i, 3), -1);
            checks.due("what -1", x.broken(i, -1), -1);
            checks.due("what MAX", x.broken(i, Integer.MAX_VALUE), -1);
        }
        for (int i : new int[] {3, 4, -1, 30, Integer.MAX_VALUE, Integer.MIN_VALUE}) {
            checks.due("broken(" + i + ", 0)", x.broken(i, 0), -1);
            checks.due("broken(" + i + ", 1)", x.broken(i, 1), -1);
            checks.due("broken(" + i + ", 2)", x.broken(i, 2), -1);
        }
        x.warning(0, 0);
        Checks.tell(x, "hard tag 9 must");
        checks.due("a warning asked and a new rule are no run", x.broken(2, 0), 3);
        checks.due("a new rule is not in the latest run", x.broken(3, 0), -1);
        x.field(6, 2, 1);
        checks.dueRun("the next run", x, 6, 3);
        checks.due("is the latest", x.broken(0, 0), 2);
        checks.due("is the latest", x.broken(2, 0), 4);
    }

    private static void firstField(Checks checks) {
        CheckRules2 x = Checks.with(
                "hard tag 1 once and tag 2 must", "hard not sum 3 = 9 when tag 1 must",
                "hard share 4 by 3 = 100", "hard not tag 5 must or tag 6 must", "hard tag 7 must");
        x.field(1, 1, 1);
        x.field(0, 9, 1);
        x.field(0, 1, 1);
        x.field(0, 3, 9);
        x.field(0, 1, 1);
        x.field(0, 4, 2);
        x.field(0, 5, 2);
        checks.dueRun("run", x, 0, 5);
        int[] due = {3, 4, 6, 7, 0};
        for (int i = 0; i < due.length; i++) {
            checks.due("broken(" + i + ", 2)", x.broken(i, 2), due[i]);
        }
        checks.dueRun("another record", x, 1, 2);
        checks.due("its own field", x.broken(0, 2), 1);
        checks.dueRun("a record without fields", x, 2, 2);
        checks.due("no field", x.broken(0, 2), 0);
        x.field(3, 7, 1);
        x.field(2, 7, 1);
        checks.due("the rule", x.broken(1, 0), 4);
        checks.due("a field of the record that came behind the run", x.broken(1, 2), 9);
    }

    private static void noRecord(Checks checks) {
        CheckRules2 x = Checks.with("hard tag 1 must");
        for (int record : new int[] {-1, 20, Integer.MAX_VALUE, Integer.MIN_VALUE}) {
            checks.dueRun("run(" + record + ")", x, record, -1);
        }
        checks.due("that was no run", x.never(0), 0);
        checks.due("that was no run", x.except(0, 3, 1), 1);
        checks.dueRun("run(0)", x, 0, 1);
        checks.dueRun("run(20)", x, 20, -1);
        checks.due("the latest run stands", x.broken(0, 0), 0);
    }

    private static void thrown(Checks checks) {
        CheckRules2 x = Checks.with(
                "warn tag 1 must", "hard tag 1 once", "hard share 1 by 2 = 1", "hard tag 3 must: m");
        checks.dueRun("held back", x, 0, 2);
        checks.due("the failing one is not broken", x.broken(1, 0), 3);
        checks.due("nor met", x.never(0), 2);
        CheckRules2 y = Checks.with(
                "warn tag 1 must", "hard tag 1 once", "hard share 1 by 2 = 1", "hard tag 3 must: m");
        y.throwsUp(2, true);
        checks.dueThrow("let through", y, 0);
        checks.due("what was broken so far", y.broken(0, 0), 0);
        checks.due("what was broken so far", y.broken(1, 0), -1);
        checks.due("no message behind it", y.message(1, 0), -1);
        checks.due("those before it are met", y.never(0), 2);
        checks.due("those behind it are not", y.never(1), 3);
        checks.due("it counts as begun", y.except(0, 0, 3), 2);
        y.field(1, 1, 6);
        y.field(1, 2, 6);
        checks.dueRun("where it does not fail", y, 1, 1);
        checks.due("rule 3", y.broken(0, 0), 3);
        checks.dueThrow("again", y, 0);
        checks.due("the excepted one is not broken", y.broken(0, 0), -1);
        y.except(2, 0, 4);
        checks.dueRun("excepted, it cannot fail", y, 0, 2);
        checks.dueThrow("the exception has ended", y, 0);
        y.throwsUp(2, false);
        checks.dueRun("held back again", y, 0, 2);
    }

    private static void manyRules(Checks checks) {
        CheckRules2 x = new CheckRules2();
        for (int i = 0; i < 30; i++) {
            Checks.tell(x, i % 3 == 0 ? "warn sum 1 = 1" : "hard sum 1 = 1");
        }
        checks.dueRun("all 30", x, 0, 30);
        for (int i = 0; i < 30; i++) {
            checks.due("in order", x.broken(i, 0), i);
            checks.due("level", x.broken(i, 1), i % 3 == 0 ? 0 : 1);
        }
        checks.due("the 31st", x.broken(30, 0), -1);
    }

    private static void messages(Checks checks) {
        String forty = "~ !\"#$%&'()*+,-./0123456789:;<=>?@AZ[\\z ";
        CheckRules2 x = Checks.with(
                "hard tag 1 once: not this", "hard tag 1 must: " + forty, "warn tag 2 must", "warn tag 3 must when "
                + "tag 1 once:  : a");
        checks.due("before a run", x.message(0, 0), -1);
        checks.dueRun("run", x, 0, 3);
        checks.due("forty signs", forty.length(), 40);
        checks.due("forty signs", Checks.messageOf(x, 0).equals(forty), true);
        checks.due("the 41st", x.message(0, 40), -1);
        checks.due("none", x.message(1, 0), -1);
        checks.due("spaces and colons", Checks.messageOf(x, 2).equals(" : a"), true);
        for (int bad : new int[] {-1, 250, Integer.MAX_VALUE, Integer.MIN_VALUE}) {
            checks.due("message(0, " + bad + ")", x.message(0, bad), -1);
            checks.due("message(" + bad + ", 0)", x.message(bad, 0), -1);
        }
        checks.due("message(3, 0)", x.message(3, 0), -1);
        Checks.tell(x, "hard tag 1 must: other");
        checks.due("a later text leaves it", Checks.messageOf(x, 0).equals(forty), true);
        x.field(0, 1, 1);
        checks.dueRun("run", x, 0, 2);
        checks.due("of the latest run", Checks.messageOf(x, 1).equals(" : a"), true);
    }
}
