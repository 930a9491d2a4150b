/** The boundary cases of promises 1 and 4 to 12: a method for each sentence that names one. */
public final class CallBoundariesTest {
    private static final int MIN = Integer.MIN_VALUE;
    private static final int MAX = Integer.MAX_VALUE;
    private static final int[] NO_RECORDS = {-1, 20, 21, 256, MIN, MAX};
    private static final int[] NO_PLACES = {-1, MIN, MAX, 30, 250};

    public static void main(String[] args) {
        Checks checks = new Checks("CallBoundariesTest");
        newObject(checks);
        fieldOfNoRecord(checks);
        fieldOfNoTag(checks);
        fieldValues(checks);
        fieldsOfFullObject(checks);
        subfieldOfNoField(checks);
        subfieldOfNoLetter(checks);
        subfieldsOfFullObject(checks);
        runOfNoRecord(checks);
        runOfNoRules(checks);
        runOfExceptions(checks);
        runThrows(checks);
        brokenOfNone(checks);
        brokenOfAnotherWhat(checks);
        brokenWithoutField(checks);
        warningOfNone(checks);
        warningWhateverExceptions(checks);
        warningOfFailing(checks);
        warningIsNoRun(checks);
        throwsUpAtFirst(checks);
        throwsUpOfNoRule(checks);
        exceptHasEnded(checks);
        exceptAtMost(checks);
        exceptOfNone(checks);
        exceptInPlace(checks);
        exceptHoldsInRun(checks);
        neverOfNone(checks);
        neverOfRuns(checks);
        messagePastItsEnd(checks);
        messageOfNone(checks);
        lastCalls(checks);
        checks.end();
    }

    private static void newObject(Checks checks) {
        checks.sentence("a new object: no rules, no fields; nothing is collected; no run");
        checks.due("rule() of nothing", new CheckRules2().rule(), -1);
        checks.due("never(0)", new CheckRules2().never(0), -1);
        checks.due("warning(0, 0)", new CheckRules2().warning(0, 0), -1);
        checks.due("throwsUp(0, true)", new CheckRules2().throwsUp(0, true), false);
        checks.due("except(0, 0, 1)", new CheckRules2().except(0, 0, 1), -1);
        checks.due("subfield(1, 'a', 0)", new CheckRules2().subfield(1, 'a', 0), 0);
        checks.due("field(0, 0, 0)", new CheckRules2().field(0, 0, 0), 1);
        checks.due("the first rule", Checks.tell(new CheckRules2(), "warn tag 0 must"), 0);
        for (int what = 0; what <= 2; what++) {
            checks.due("broken(0, " + what + ")", new CheckRules2().broken(0, what), -1);
        }
        checks.due("message(0, 0)", new CheckRules2().message(0, 0), -1);
        checks.due("no run has begun", Checks.with("warn tag 0 must").except(0, 0, 1), 1);
        for (int record = 0; record < 20; record++) {
            checks.dueRun("a record has no field", Checks.with("warn tag 0 must"), record, 1);
        }
    }

    private static void fieldOfNoRecord(Checks checks) {
        checks.sentence("field: 0 if there is no such record");
        CheckRules2 x = Checks.with("hard tag 3 once");
        for (int record : NO_RECORDS) {
            checks.due("field(" + record + ", 3, 0)", x.field(record, 3, 0), 0);
        }
        for (int record = 0; record < 20; record++) {
            checks.due("field(" + record + ", 3, 0)", x.field(record, 3, 0), record + 1);
            checks.dueRun("a refused one stands nowhere", x, record, 0);
        }
    }

    private static void fieldOfNoTag(Checks checks) {
        checks.sentence("field: 0 if the tag is not 0 .. 999");
        CheckRules2 x = new CheckRules2();
        for (int tag : new int[] {-1, 1000, 1001, -999, MIN, MAX}) {
            checks.due("field(0, " + tag + ", 0)", x.field(0, tag, 0), 0);
        }
        checks.due("field(0, 0, 0)", x.field(0, 0, 0), 1);
        checks.due("field(0, 999, 0)", x.field(0, 999, 0), 2);
    }

    private static void fieldValues(Checks checks) {
        checks.sentence("field: a VALUE (an int)");
        for (int value : new int[] {MIN, -1, 0, 1, MAX}) {
            CheckRules2 x = Checks.with("hard tag 3 value = " + value);
            checks.due("field(0, 3, " + value + ")", x.field(0, 3, value), 1);
            checks.dueRun("its value", x, 0, 0);
            x.field(0, 3, value + 1);
            checks.dueRun("another value", x, 0, 1);
        }
    }

    private static void fieldsOfFullObject(Checks checks) {
        checks.sentence("field: 0 if there are 200");
        CheckRules2 x = Checks.with("hard tag 3 must");
        for (int number = 1; number <= 200; number++) {
            checks.due("field " + number, x.field(number % 19, 5, number), number);
        }
        checks.due("one more", x.field(0, 5, 0), 0);
        checks.due("one more of the empty record", x.field(19, 3, 0), 0);
        checks.dueRun("it is not there", x, 19, 1);
        checks.due("the 200th is there", x.subfield(200, 'a', 0), 1);
        checks.due("a 201st is not", x.subfield(201, 'a', 0), 0);
    }

    private static void subfieldOfNoField(Checks checks) {
        checks.sentence("subfield: 0 if there is no such field");
        CheckRules2 x = new CheckRules2();
        checks.due("no field at all", x.subfield(1, 'a', 0), 0);
        checks.due("no field at all", x.subfield(0, 'a', 0), 0);
        x.field(4, 3, 0);
        x.field(20, 3, 0);
        x.field(5, 3, 0);
        for (int field : new int[] {0, -1, 3, 200, 201, MIN, MAX}) {
            checks.due("subfield(" + field + ", 'a', 0)", x.subfield(field, 'a', 0), 0);
        }
        checks.due("the first", x.subfield(1, 'a', 0), 1);
        checks.due("the last", x.subfield(2, 'a', 0), 1);
    }

    private static void subfieldOfNoLetter(Checks checks) {
        checks.sentence("subfield: 0 if the code is no letter a to z");
        CheckRules2 x = new CheckRules2();
        x.field(0, 3, 0);
        int count = 0;
        for (int code = -1; code <= 300; code++) {
            boolean letter = code >= 'a' && code <= 'z';
            count += letter ? 1 : 0;
            checks.due("subfield(1, " + code + ", 0)", x.subfield(1, code, 0), letter ? count : 0);
        }
        for (int code : new int[] {'a' + 256, 'a' - 256, 'a' + 65536, MIN, MAX, MIN + 'a'}) {
            checks.due("subfield(1, " + code + ", 0)", x.subfield(1, code, 0), 0);
        }
    }

    private static void subfieldsOfFullObject(Checks checks) {
        checks.sentence("subfield: 0 if there are 400");
        CheckRules2 x = Checks.with("hard tag 3 sub b in 1", "hard not tag 4 sub z must");
        x.field(0, 3, 0);
        x.field(0, 4, 0);
        for (int count = 1; count <= 200; count++) {
            checks.due("subfield of 1", x.subfield(1, 'a', 0), count);
            checks.due("subfield of 2", x.subfield(2, count < 200 ? 'y' : 'z', 0), count);
        }
        checks.due("one more of 1", x.subfield(1, 'b', 0), 0);
        checks.due("one more of 2", x.subfield(2, 'b', 0), 0);
        checks.dueRun("the 401st is not there, the 400th is", x, 0, 1);
        checks.due("the 400th", x.broken(0, 0), 1);
    }

    private static void runOfNoRecord(Checks checks) {
        checks.sentence("run: NONE if there is no such record");
        CheckRules2 x = Checks.with("hard tag 3 must", "hard share 3 by 4 = 1");
        x.throwsUp(1, true);
        for (int record : NO_RECORDS) {
            checks.dueRun("run(" + record + ")", x, record, -1);
        }
        checks.due("no run has begun", x.except(0, 0, 1), 1);
        checks.due("no rule is met", x.never(0), 0);
        x.throwsUp(1, false);
        checks.dueRun("run(19)", x, 19, 1);
        checks.dueRun("run(20)", x, 20, -1);
        checks.due("the latest run is the one before", x.broken(0, 0), 0);
    }

    private static void runOfNoRules(Checks checks) {
        checks.sentence("run: all rules, in order: how many are broken, hard ones and warnings");
        CheckRules2 x = new CheckRules2();
        checks.dueRun("no rules", x, 0, 0);
        for (int number = 0; number < 30; number++) {
            Checks.tell(x, number % 2 == 0 ? "hard sum 1 = 1" : "warn sum 1 = 1");
            checks.dueRun("rules: " + (number + 1), x, number % 20, number + 1);
        }
        for (int i = 0; i < 20; i++) {
            checks.due("in order", x.broken(i + 10, 0), i + 10);
        }
        x.field(0, 1, 1);
        checks.dueRun("none is broken", x, 0, 0);
        checks.due("none is broken", x.broken(0, 0), -1);
    }

    private static void runOfExceptions(Checks checks) {
        checks.sentence("run: all but those of which the record has an exception that has not ended");
        CheckRules2 x = Checks.with("hard sum 1 = 1", "warn sum 1 = 2", "hard sum 1 = 3");
        x.except(0, 0, 1);
        x.except(2, 0, 2);
        checks.dueRun("run 1: rules 0 and 2 are spared", x, 0, 1);
        checks.due("rule 1", x.broken(0, 0), 1);
        checks.dueRun("run 2: rule 2 is spared", x, 0, 2);
        checks.due("rule 0", x.broken(0, 0), 0);
        checks.due("rule 1", x.broken(1, 0), 1);
        checks.dueRun("run 3: none is spared", x, 0, 3);
        for (int rule = 0; rule < 3; rule++) {
            x.except(rule, 0, 4);
        }
        checks.dueRun("run 4: all are spared", x, 0, 0);
        for (int rule = 0; rule < 3; rule++) {
            x.except(rule, 0, 6);
        }
        checks.dueRun("run 5: another record", x, 1, 3);
    }

    private static void runThrows(Checks checks) {
        checks.sentence("run: ArithmeticException where a rule FAILS that is let through: those before it have been met,"
                + " or broken, it is the latest run with what was broken so far");
        for (int failing = 0; failing < 4; failing++) {
            CheckRules2 x = new CheckRules2();
            for (int number = 0; number < 4; number++) {
                Checks.tell(x, number == failing ? "warn share 1 by 2 = 1: f" : "hard tag 1 must: " + number);
            }
            checks.dueRun("held back", x, 5, 3);
            CheckRules2 y = new CheckRules2();
            for (int number = 0; number < 4; number++) {
                Checks.tell(y, number == failing ? "warn share 1 by 2 = 1: f" : "hard tag 1 must: " + number);
            }
            y.throwsUp(failing, true);
            checks.dueThrow("let through", y, 5);
            for (int number = 0; number < 4; number++) {
                checks.due("broken so far", y.broken(number, 0), number < failing ? number : -1);
                checks.due("its message", y.message(number, 0), number < failing ? '0' + number : -1);
                checks.due("never met", y.never(number), failing + number < 4 ? failing + number : -1);
            }
            checks.due("the run has begun", y.except(0, 0, 1), 0);
            y.except(failing, 5, 2);
            checks.dueRun("spared, it does not fail", y, 5, 3);
            checks.dueThrow("not spared", y, 5);
            checks.due("it is the latest run, not the one before", y.broken(failing, 0), -1);
        }
    }

    private static void brokenOfNone(Checks checks) {
        checks.sentence("broken: the i-th rule, from 0 on; NONE if there is none such");
        CheckRules2 x = Checks.with("hard tag 3 once", "warn tag 3 must", "hard tag 4 must");
        checks.due("before a run", x.broken(0, 0), -1);
        checks.dueRun("run(0)", x, 0, 2);
        for (int what = 0; what <= 2; what++) {
            int[] due = {1, 0, 0};
            checks.due("the first", x.broken(0, what), due[what]);
            int[] dueLast = {2, 1, 0};
            checks.due("the last", x.broken(1, what), dueLast[what]);
            checks.due("past the last", x.broken(2, what), -1);
            for (int i : NO_PLACES) {
                checks.due("broken(" + i + ", " + what + ")", x.broken(i, what), -1);
            }
        }
    }

    private static void brokenOfAnotherWhat(Checks checks) {
        checks.sentence("broken: NONE for another what");
        CheckRules2 x = Checks.with("hard tag 3 once");
        x.field(0, 3, 0);
        x.field(0, 3, 0);
        checks.dueRun("run(0)", x, 0, 1);
        checks.due("what 2", x.broken(0, 2), 1);
        for (int what : new int[] {-1, 3, 4, 256, 258, MIN, MAX}) {
            checks.due("broken(0, " + what + ")", x.broken(0, what), -1);
        }
    }

    private static void brokenWithoutField(Checks checks) {
        checks.sentence("broken, what 2: the first field of the record whose tag is the N of the rule's first TEST,"
                + " 0 without one");
        CheckRules2 x = Checks.with(
                "hard not tag 3 must or not tag 4 must", "hard tag 5 must when tag 3 must", "hard not share 4 by 3 = 0",
                "hard not tag 0 must");
        x.field(1, 0, 0);
        x.field(1, 4, 0);
        x.field(0, 4, 0);
        x.field(0, 3, 1);
        x.field(0, 4, 0);
        x.field(0, 3, 0);
        x.field(0, 0, 0);
        checks.dueRun("run(0)", x, 0, 4);
        int[] due = {4, 0, 3, 7};
        for (int i = 0; i < due.length; i++) {
            checks.due("broken(" + i + ", 2)", x.broken(i, 2), due[i]);
        }
        checks.dueRun("run(1)", x, 1, 1);
        checks.due("of the latest run's record", x.broken(0, 2), 1);
    }

    private static void warningOfNone(Checks checks) {
        checks.sentence("warning: of the rules that are warnings, the i-th, from 0 on; NONE if there is none");
        CheckRules2 x = Checks.with("hard sum 1 = 1", "warn sum 1 = 2", "hard sum 1 = 3", "warn sum 1 = 0",
                "warn sum 1 = 4", "warn sum 1 = 5 when tag 1 must");
        for (int record = 0; record < 20; record++) {
            checks.due("the first", x.warning(record, 0), 1);
            checks.due("the last", x.warning(record, 1), 4);
            checks.due("past the last", x.warning(record, 2), -1);
        }
        for (int i : NO_PLACES) {
            checks.due("warning(0, " + i + ")", x.warning(0, i), -1);
        }
        for (int record : NO_RECORDS) {
            checks.due("warning(" + record + ", 0)", x.warning(record, 0), -1);
        }
        x.field(0, 1, 2);
        checks.due("as it is now", x.warning(0, 0), 3);
        checks.due("as it is now", x.warning(0, 2), 5);
        checks.due("only hard ones", Checks.with("hard sum 1 = 1").warning(0, 0), -1);
    }

    private static void warningWhateverExceptions(Checks checks) {
        checks.sentence("warning: whatever exceptions there are");
        CheckRules2 x = Checks.with("warn sum 1 = 1", "warn sum 1 = 2");
        x.except(0, 0, Long.MAX_VALUE);
        x.except(1, 0, 1);
        checks.due("the first", x.warning(0, 0), 0);
        checks.due("the second", x.warning(0, 1), 1);
        checks.dueRun("the run heeds them", x, 0, 0);
        checks.due("the first", x.warning(0, 0), 0);
    }

    private static void warningOfFailing(Checks checks) {
        checks.sentence("warning: a rule that FAILS is none of them");
        for (int on = 0; on < 2; on++) {
            CheckRules2 x = Checks.with("warn share 1 by 2 = 1", "warn not share 1 by 2 = 1", "warn sum 1 = 1");
            x.throwsUp(0, on == 1);
            x.throwsUp(1, on == 1);
            checks.due("the first", x.warning(0, 0), 2);
            checks.due("no second", x.warning(0, 1), -1);
            x.field(0, 2, 1);
            checks.due("it fails no more", x.warning(0, 0), 0);
            checks.due("the other one", x.warning(0, 1), 2);
        }
    }

    private static void warningIsNoRun(Checks checks) {
        checks.sentence("warning: this is no run, no rule is met by it");
        CheckRules2 x = Checks.with("warn sum 1 = 1", "hard tag 3 must");
        x.field(1, 3, 0);
        checks.due("warning(0, 0)", x.warning(0, 0), 0);
        checks.due("not met", x.never(0), 0);
        checks.due("no run has begun", x.except(0, 5, 1), 1);
        checks.due("nothing is broken", x.broken(0, 0), -1);
        checks.dueRun("run(0)", x, 0, 2);
        x.warning(1, 0);
        checks.due("the latest run stands", x.broken(1, 0), 1);
        checks.due("the latest run's record stands", x.broken(1, 2), 0);
    }

    private static void throwsUpAtFirst(Checks checks) {
        checks.sentence("throwsUp: let through or not (at first): whether it was before");
        CheckRules2 x = new CheckRules2();
        for (int rule = 0; rule < 30; rule++) {
            Checks.tell(x, "hard sum 1 = 1");
        }
        for (int rule = 0; rule < 30; rule++) {
            checks.due("at first", x.throwsUp(rule, rule % 2 == 0), false);
        }
        for (int rule : new int[] {0, 1, 28, 29}) {
            checks.due("before", x.throwsUp(rule, rule % 2 == 0), rule % 2 == 0);
            checks.due("before, the same again", x.throwsUp(rule, false), rule % 2 == 0);
            checks.due("before, off", x.throwsUp(rule, true), false);
            checks.due("before, on", x.throwsUp(rule, true), true);
        }
        checks.dueRun("without one that fails nothing is thrown", x, 0, 30);
    }

    private static void throwsUpOfNoRule(Checks checks) {
        checks.sentence("throwsUp: false if there is no such rule");
        CheckRules2 x = Checks.with("hard share 1 by 2 = 1");
        for (int rule : new int[] {-1, 1, 29, 30, 256, MIN, MAX}) {
            checks.due("throwsUp(" + rule + ", true)", x.throwsUp(rule, true), false);
            checks.due("throwsUp(" + rule + ", true) again", x.throwsUp(rule, true), false);
        }
        Checks.tell(x, "hard share 1 by 2 = 1");
        checks.dueRun("nothing was let through", x, 0, 0);
        checks.due("nor the rule that came later", x.throwsUp(1, false), false);
    }

    private static void exceptHasEnded(Checks checks) {
        checks.sentence("except: how many runs that still are (0 if it has ended already)");
        CheckRules2 x = Checks.with("hard sum 1 = 1");
        for (int runs = 0; runs < 4; runs++) {
            checks.due("one run more", x.except(0, 0, runs + 1), 1);
            checks.due("two runs more", x.except(0, 0, runs + 2), 2);
            checks.due("ended just now", x.except(0, 0, runs), 0);
            checks.due("ended before", x.except(0, 0, runs - 1), 0);
            checks.due("until 0", x.except(0, 0, 0), 0);
            checks.due("until -1", x.except(0, 0, -1), 0);
            checks.due("until int MIN", x.except(0, 0, MIN), 0);
            checks.due("until MIN", x.except(0, 0, Long.MIN_VALUE), 0);
            checks.due("until MIN + 1", x.except(0, 0, Long.MIN_VALUE + 1), 0);
            checks.dueRun("an ended one spares nothing", x, 0, 1);
        }
    }

    private static void exceptAtMost(Checks checks) {
        checks.sentence("except: at most 2147483647");
        CheckRules2 x = Checks.with("hard sum 1 = 1");
        for (int runs = 0; runs < 3; runs++) {
            checks.due("one less", x.except(0, 0, MAX + (long) runs - 1), MAX - 1);
            checks.due("just as many", x.except(0, 0, MAX + (long) runs), MAX);
            checks.due("one more", x.except(0, 0, MAX + (long) runs + 1), MAX);
            checks.due("2 to 32", x.except(0, 0, 1L << 32), MAX);
            checks.due("2 to 32 and 5", x.except(0, 0, (1L << 32) + 5), MAX);
            checks.due("MAX", x.except(0, 0, Long.MAX_VALUE), MAX);
            checks.dueRun("it spares", x, 0, 0);
            checks.due("never met", x.never(0), 0);
        }
    }

    private static void exceptOfNone(Checks checks) {
        checks.sentence("except: NONE if there is no such rule or record");
        CheckRules2 x = Checks.with("hard sum 1 = 1");
        for (int rule : new int[] {-1, 1, 29, 30, MIN, MAX}) {
            checks.due("except(" + rule + ", 0, 9)", x.except(rule, 0, 9), -1);
            checks.due("except(" + rule + ", 20, -9)", x.except(rule, 20, -9), -1);
        }
        for (int record : NO_RECORDS) {
            checks.due("except(0, " + record + ", 9)", x.except(0, record, 9), -1);
        }
        for (int record = 0; record < 20; record++) {
            checks.dueRun("a refused one spares nothing", x, record, 1);
        }
        Checks.tell(x, "hard sum 1 = 1");
        checks.dueRun("nor of a rule that comes later", x, 0, 2);
    }

    private static void exceptInPlace(Checks checks) {
        checks.sentence("except: in place of the one before");
        CheckRules2 x = Checks.with("hard sum 1 = 1", "hard sum 1 = 1");
        checks.due("until 9", x.except(0, 0, 9), 9);
        checks.due("until 1", x.except(0, 0, 1), 1);
        checks.dueRun("run 1", x, 0, 1);
        checks.dueRun("run 2: the shorter one counts", x, 0, 2);
        checks.due("until 3", x.except(0, 0, 3), 1);
        checks.due("until 4", x.except(0, 0, 4), 2);
        checks.due("of another rule", x.except(1, 0, -5), 0);
        checks.due("of another record", x.except(0, 1, -5), 0);
        checks.dueRun("run 3", x, 0, 1);
        checks.dueRun("run 4: the longer one counts", x, 0, 1);
        checks.dueRun("run 5", x, 0, 2);
        checks.due("until 9", x.except(0, 0, 9), 4);
        checks.due("an ended one in its place", x.except(0, 0, 0), 0);
        checks.dueRun("run 6", x, 0, 2);
    }

    private static void exceptHoldsInRun(Checks checks) {
        checks.sentence("except: it holds in the n-th run of all, from 1 on, if n is not above until");
        for (int until = 0; until <= 4; until++) {
            CheckRules2 x = Checks.with("hard sum 1 = 1", "warn share 1 by 2 = 1");
            x.except(0, 0, until);
            x.except(1, 7, 99);
            x.throwsUp(1, true);
            for (int n = 1; n <= 5; n++) {
                if (n % 2 == 0) {
                    checks.dueThrow("a run of another record that throws", x, 3);
                } else {
                    x.except(1, 0, n);
                    checks.dueRun("until " + until + ", run " + n, x, 0, n <= until ? 0 : 1);
                }
            }
        }
        CheckRules2 corner = new CheckRules2();
        for (int rule = 0; rule < 30; rule++) {
            Checks.tell(corner, "hard sum 1 = 1");
        }
        corner.except(29, 19, 1);
        checks.dueRun("the last rule of the last record", corner, 19, 29);
        checks.due("rule 28 is the last broken", corner.broken(28, 0), 28);
    }

    private static void neverOfNone(Checks checks) {
        checks.sentence("never: the i-th rule, from 0 on; NONE if there is none");
        CheckRules2 x = new CheckRules2();
        checks.due("no rules", x.never(0), -1);
        for (int rule = 0; rule < 30; rule++) {
            Checks.tell(x, "hard sum 1 = 0");
        }
        for (int i = 0; i < 30; i++) {
            checks.due("before a run", x.never(i), i);
        }
        checks.due("past the last", x.never(30), -1);
        checks.dueRun("run(0)", x, 0, 0);
        checks.due("all are met", x.never(0), -1);
        CheckRules2 y = new CheckRules2();
        for (int rule = 0; rule < 20; rule++) {
            Checks.tell(y, rule % 2 == 0 ? "hard sum 1 = 0" : "hard sum 1 = 0 when tag 1 must");
        }
        checks.dueRun("run(0)", y, 0, 0);
        for (int i = 0; i < 10; i++) {
            checks.due("each second", y.never(i), 2 * i + 1);
        }
        checks.due("past the last", y.never(10), -1);
        for (int i : NO_PLACES) {
            checks.due("never(" + i + ")", y.never(i), -1);
        }
    }

    private static void neverOfRuns(Checks checks) {
        checks.sentence("never: that no run has met");
        CheckRules2 x = Checks.with("hard tag 1 must", "warn tag 1 must when tag 2 must", "hard share 1 by 2 = 0");
        x.except(0, 0, 1);
        checks.dueRun("run 1, spared", x, 0, 0);
        checks.due("spared is not met", x.never(0), 0);
        checks.due("behind when not", x.never(1), 1);
        checks.due("failed", x.never(2), 2);
        checks.dueRun("run 2, broken", x, 0, 1);
        checks.due("broken is met", x.never(0), 1);
        x.field(4, 2, 5);
        checks.dueRun("run 3, another record", x, 4, 2);
        checks.due("all are met", x.never(0), -1);
        checks.dueRun("run 4", x, 0, 1);
        checks.due("met once, met for all runs", x.never(0), -1);
    }

    private static void messagePastItsEnd(Checks checks) {
        checks.sentence("message: sign c, from 0 on; NONE past its end");
        String forty = "~" + " ".repeat(38) + "!";
        CheckRules2 x = Checks.with("hard sum 1 = 1: m", "hard sum 1 = 1", "warn sum 1 = 1: " + forty);
        checks.dueRun("run(0)", x, 0, 3);
        checks.due("of one sign", x.message(0, 0), 'm');
        checks.due("past it", x.message(0, 1), -1);
        checks.due("without a message", x.message(1, 0), -1);
        checks.due("the first of 40", x.message(2, 0), '~');
        checks.due("the 39th", x.message(2, 38), ' ');
        checks.due("the 40th", x.message(2, 39), '!');
        checks.due("past the 40th", x.message(2, 40), -1);
        for (int i = 0; i < 3; i++) {
            for (int c : new int[] {-1, 41, 250, 256, MIN, MAX}) {
                checks.due("message(" + i + ", " + c + ")", x.message(i, c), -1);
            }
        }
    }

    private static void messageOfNone(Checks checks) {
        checks.sentence("message: of the i-th rule that the latest run found broken; NONE if there is none such");
        CheckRules2 x = Checks.with("hard sum 1 = 0: a", "hard sum 1 = 1: b", "hard sum 1 = 2: c");
        checks.due("before a run", x.message(0, 0), -1);
        checks.dueRun("run(0)", x, 0, 2);
        checks.due("the first", x.message(0, 0), 'b');
        checks.due("the last", x.message(1, 0), 'c');
        checks.due("past the last", x.message(2, 0), -1);
        for (int i : NO_PLACES) {
            checks.due("message(" + i + ", 0)", x.message(i, 0), -1);
        }
        x.field(3, 1, 1);
        checks.dueRun("run(3)", x, 3, 2);
        checks.due("of the latest run", x.message(0, 0), 'a');
        x.except(0, 3, 9);
        x.except(2, 3, 9);
        checks.dueRun("run(3)", x, 3, 0);
        checks.due("a run that found none", x.message(0, 0), -1);
    }

    private static void lastCalls(Checks checks) {
        checks.sentence("an object is used for at most 512 calls");
        CheckRules2 x = new CheckRules2();
        int calls = 0;
        for (String text : new String[] {"hard tag 1 once: m", "warn tag 1 sub a in 0"}) {
            Checks.tell(x, text);
            calls += text.length() + 1;
        }
        for (int number = 1; number <= 200; number++) {
            checks.due("field " + number, x.field(0, 1, 0), number);
            calls++;
        }
        for (; calls < 510; calls++) {
            checks.due("call " + calls, x.subfield(200, 'a', calls) > 0, true);
        }
        checks.dueRun("the 511th call", x, 0, 2);
        checks.due("the 512th call", x.message(0, 0), 'm');
    }
}
