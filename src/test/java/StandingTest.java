/** Promises 8 to 11: warning, throwsUp, except and never. */
public final class StandingTest {
    public static void main(String[] args) {
        Checks checks = new Checks("StandingTest");
        warnings(checks);
        throwsUp(checks);
        exceptions(checks);
        lengthsOfExceptions(checks);
        never(checks);
        checks.end();
    }

    private static void warnings(Checks checks) {
        CheckRules2 x = Checks.with(
                "hard tag 1 must", "warn tag 2 must", "warn share 1 by 2 = 1", "warn tag 1 once", "warn tag 3 must");
        x.throwsUp(2, true);
        x.except(1, 0, 100);
        checks.due("the first, whatever exception", x.warning(0, 0), 1);
        checks.due("the second, without the failing one", x.warning(0, 1), 4);
        checks.due("no third", x.warning(0, 2), -1);
        checks.due("no run", x.except(0, 1, 1), 1);
        checks.due("none is met", x.never(1), 1);
        checks.due("nothing is broken", x.broken(0, 0), -1);
        x.field(0, 2, 5);
        checks.due("as it is now", x.warning(0, 0), 2);
        checks.due("as it is now", x.warning(0, 1), 4);
        checks.due("another record", x.warning(1, 0), 1);
        for (int bad : new int[] {-1, 20, 30, Integer.MAX_VALUE, Integer.MIN_VALUE}) {
            checks.due("warning(" + bad + ", 0)", x.warning(bad, 0), -1);
            checks.due("warning(0, " + bad + ")", x.warning(0, bad), -1);
        }
        checks.due("record 19", x.warning(19, 1), 4);
        CheckRules2 y = Checks.with("warn tag 1 must when tag 2 must");
        checks.due("not met, not broken", y.warning(0, 0), -1);
        y.field(0, 2, 0);
        checks.due("broken", y.warning(0, 0), 0);
    }

    private static void throwsUp(Checks checks) {
        CheckRules2 x = Checks.with("hard share 1 by 2 = 1", "warn share 1 by 2 = 1");
        checks.due("at first", x.throwsUp(0, false), false);
        checks.due("at first", x.throwsUp(0, true), false);
        checks.due("before", x.throwsUp(0, true), true);
        checks.due("the other rule", x.throwsUp(1, false), false);
        checks.dueThrow("on", x, 0);
        checks.due("before", x.throwsUp(0, false), true);
        checks.due("before", x.throwsUp(0, false), false);
        checks.dueRun("off", x, 0, 0);
        x.throwsUp(1, true);
        checks.dueThrow("a warning too", x, 0);
        for (int bad : new int[] {-1, 2, 29, 30, Integer.MAX_VALUE, Integer.MIN_VALUE}) {
            checks.due("throwsUp(" + bad + ", true)", x.throwsUp(bad, true), false);
            checks.due("throwsUp(" + bad + ", true) again", x.throwsUp(bad, true), false);
        }
        Checks.tell(x, "hard tag 1 must");
        checks.due("a rule told later is held back at first", x.throwsUp(2, true), false);
    }

    private static void exceptions(Checks checks) {
        CheckRules2 x = Checks.with("hard tag 1 must", "hard tag 2 must");
        checks.due("except(0, 0, 2)", x.except(0, 0, 2), 2);
        checks.dueRun("run 1", x, 0, 1);
        checks.due("the other rule", x.broken(0, 0), 1);
        checks.due("not looked at, not met", x.never(0), 0);
        checks.dueRun("run 2, another record", x, 1, 2);
        checks.dueRun("run 3, the exception has ended", x, 0, 2);
        checks.due("except(1, 0, 5)", x.except(1, 0, 5), 2);
        checks.dueRun("run 4", x, 0, 1);
        checks.due("in place of the one before", x.except(1, 0, 4), 0);
        checks.dueRun("run 5, ended by that", x, 0, 2);
        checks.due("except(1, 0, 6)", x.except(1, 0, 6), 1);
        checks.due("ended again", x.except(1, 0, -1), 0);
        checks.dueRun("run 6", x, 0, 2);
        x.except(0, 19, 7);
        x.except(1, 19, 7);
        checks.dueRun("run 7, both", x, 19, 0);
        checks.dueRun("run 8, none", x, 19, 2);
    }

    private static void lengthsOfExceptions(Checks checks) {
        CheckRules2 x = Checks.with("hard tag 1 must");
        checks.due("until 0", x.except(0, 0, 0), 0);
        checks.due("until MIN", x.except(0, 0, Long.MIN_VALUE), 0);
        checks.due("until MAX", x.except(0, 0, Long.MAX_VALUE), Integer.MAX_VALUE);
        checks.due("until int MAX", x.except(0, 0, 2147483647L), 2147483647);
        checks.due("until int MAX + 1", x.except(0, 0, 2147483648L), 2147483647);
        checks.due("until 2 to 32", x.except(0, 0, 4294967296L), 2147483647);
        checks.dueRun("run 1", x, 0, 0);
        checks.due("until MIN", x.except(0, 0, Long.MIN_VALUE), 0);
        checks.due("until 1", x.except(0, 0, 1), 0);
        checks.due("until int MAX", x.except(0, 0, 2147483647L), 2147483646);
        checks.due("until int MAX + 1", x.except(0, 0, 2147483648L), 2147483647);
        checks.due("no rule 1", x.except(1, 0, 5), -1);
        checks.due("no rule -1", x.except(-1, 0, 5), -1);
        checks.due("no rule MAX", x.except(Integer.MAX_VALUE, 0, 5), -1);
        checks.due("no record 20", x.except(0, 20, 5), -1);
        checks.due("no record -1", x.except(0, -1, 5), -1);
        checks.due("no record MIN", x.except(0, Integer.MIN_VALUE, 5), -1);
        CheckRules2 late = Checks.with("hard tag 1 must");
        late.except(1, 0, 9);
        Checks.tell(late, "hard tag 2 must");
        checks.dueRun("a refused exception is not kept for a later rule", late, 0, 2);
    }

    private static void never(Checks checks) {
        CheckRules2 x = Checks.with(
                "hard tag 1 must when tag 1 must", "hard tag 2 once", "warn share 1 by 2 = 1", "warn tag 3 must");
        for (int i = 0; i < 4; i++) {
            checks.due("before a run", x.never(i), i);
        }
        checks.due("past them", x.never(4), -1);
        checks.dueRun("run", x, 0, 1);
        checks.due("behind when not", x.never(0), 0);
        checks.due("failed", x.never(1), 2);
        checks.due("the others, broken or not, are met", x.never(2), -1);
        x.field(1, 1, 5);
        checks.dueRun("run", x, 1, 1);
        checks.due("met once is met", x.never(0), 2);
        checks.dueRun("run", x, 0, 1);
        checks.due("met once is met", x.never(0), 2);
        Checks.tell(x, "hard tag 9 must");
        checks.due("a new one", x.never(1), 4);
        for (int bad : new int[] {-1, 2, 30, Integer.MAX_VALUE, Integer.MIN_VALUE}) {
            checks.due("never(" + bad + ")", x.never(bad), -1);
        }
    }
}
