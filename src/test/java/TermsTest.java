/** Terms: what each TEST says, how TESTS are joined, and when a rule is BROKEN, MET or FAILS. */
public final class TermsTest {
    public static void main(String[] args) {
        Checks checks = new Checks("TermsTest");
        mustAndOnce(checks);
        subMust(checks);
        subIn(checks);
        value(checks);
        like(checks);
        before(checks);
        firstOfAll(checks);
        sum(checks);
        share(checks);
        joins(checks);
        conditions(checks);
        failing(checks);
        checks.end();
    }

    private static void mustAndOnce(Checks checks) {
        checks.dueHolds("tag 1 must", false);
        checks.dueHolds("tag 1 must", false, 2, 1, 11, 1);
        checks.dueHolds("tag 1 must", true, 2, 1, 1, 0);
        checks.dueHolds("tag 1 must", true, 1, 5, 1, 5);
        checks.dueHolds("tag 0 must", true, 0, 5);
        checks.dueHolds("tag 999 must", true, 999, 5);
        checks.dueHolds("tag 012 must", true, 12, 5);
        checks.dueHolds("tag 1 once", true);
        checks.dueHolds("tag 1 once", true, 1, 5, 2, 5, 2, 5);
        checks.dueHolds("tag 1 once", false, 1, 5, 2, 5, 1, 6);
        checks.dueHolds("tag 1 once", false, 1, 5, 1, 5, 1, 5);
    }

    private static void subMust(Checks checks) {
        CheckRules2 x = Checks.with("hard tag 1 sub b must");
        checks.dueRun("no field", x, 0, 0);
        x.field(0, 1, 5);
        checks.dueRun("no subfield", x, 0, 1);
        x.subfield(1, 'a', 1);
        checks.dueRun("another code", x, 0, 1);
        x.subfield(1, 'b', 1);
        checks.dueRun("the code", x, 0, 0);
        x.field(0, 1, 5);
        checks.dueRun("each field", x, 0, 1);
        x.subfield(1, 'b', 1);
        checks.dueRun("two in one field", x, 0, 1);
        x.subfield(2, 'b', 1);
        checks.dueRun("each has one", x, 0, 0);
        x.field(0, 2, 5);
        x.field(1, 1, 5);
        checks.dueRun("other tags and records need none", x, 0, 0);
        checks.dueRun("the other record", x, 1, 1);
    }

    private static void subIn(Checks checks) {
        CheckRules2 x = Checks.with("hard tag 1 sub b in 4,-2147483648,8,15,16,23,42,2147483647");
        checks.dueRun("no field", x, 0, 0);
        x.field(0, 1, 5);
        checks.dueRun("no subfield", x, 0, 0);
        x.subfield(1, 'a', 5);
        checks.dueRun("another code", x, 0, 0);
        x.subfield(1, 'b', 4);
        x.subfield(1, 'b', Integer.MIN_VALUE);
        x.subfield(1, 'b', 42);
        x.subfield(1, 'b', Integer.MAX_VALUE);
        checks.dueRun("the first, the second, the last", x, 0, 0);
        x.field(0, 2, 5);
        x.subfield(2, 'b', 5);
        x.field(1, 1, 5);
        x.subfield(3, 'b', 5);
        checks.dueRun("another tag and another record", x, 0, 0);
        checks.dueRun("that record", x, 1, 1);
        x.field(0, 1, 4);
        x.subfield(4, 'b', -4);
        checks.dueRun("each field", x, 0, 1);
        CheckRules2 one = Checks.with("hard tag 1 sub a in 7");
        one.field(0, 1, 7);
        one.subfield(1, 'a', 7);
        checks.dueRun("a list of one", one, 0, 0);
        one.subfield(1, 'a', 0);
        checks.dueRun("each subfield", one, 0, 1);
    }

    private static void value(Checks checks) {
        checks.dueHolds("tag 1 value = 5", true);
        checks.dueHolds("tag 1 value = 5", true, 1, 5, 2, 6, 1, 5);
        checks.dueHolds("tag 1 value = 5", false, 1, 5, 1, 6);
        checks.dueHolds("tag 1 value = -5", true, 1, -5);
        checks.dueHolds("tag 1 value < 5", true, 1, 4);
        checks.dueHolds("tag 1 value < 5", false, 1, 5);
        checks.dueHolds("tag 1 value < 5", false, 1, 6, 1, 4);
        checks.dueHolds("tag 1 value > 5", true, 1, 6);
        checks.dueHolds("tag 1 value > 5", false, 1, 5);
        checks.dueHolds("tag 1 value > 5", false, 1, -6);
        checks.dueHolds("tag 1 value > -2147483648", false, 1, Integer.MIN_VALUE);
        checks.dueHolds("tag 1 value < 2147483647", true, 1, Integer.MIN_VALUE);
        checks.dueHolds("tag 1 value = 0000000012", true, 1, 12);
    }

    private static void like(Checks checks) {
        checks.dueHolds("tag 1 like 1#0", true);
        checks.dueHolds("tag 1 like 1#0", true, 1, 190, 1, 100);
        checks.dueHolds("tag 1 like 1#0", false, 1, 190, 1, 191);
        checks.dueHolds("tag 1 like 1#0", false, 1, 290);
        checks.dueHolds("tag 1 like 1#0", false, 1, 1190);
        checks.dueHolds("tag 1 like 1#0", false, 1, 10);
        checks.dueHolds("tag 1 like ##", false, 1, 5);
        checks.dueHolds("tag 1 like ##", true, 1, 10);
        checks.dueHolds("tag 1 like ##", false, 1, 100);
        checks.dueHolds("tag 1 like #", true, 1, 0);
        checks.dueHolds("tag 1 like 0", true, 1, 0);
        checks.dueHolds("tag 1 like 00", false, 1, 0);
        checks.dueHolds("tag 1 like 05", false, 1, 5);
        checks.dueHolds("tag 1 like #", false, 1, -5);
        checks.dueHolds("tag 1 like ##", false, 1, -5);
        checks.dueHolds("tag 1 like ##########", true, 1, Integer.MAX_VALUE);
        checks.dueHolds("tag 1 like 21474#3647", true, 1, Integer.MAX_VALUE);
        checks.dueHolds("tag 1 like ##########", false, 1, Integer.MIN_VALUE);
        checks.dueHolds("tag 1 like ##########", false, 1, 999999999);
        checks.dueHolds("tag 1 like 9999999999", false, 1, Integer.MAX_VALUE);
    }

    private static void before(Checks checks) {
        checks.dueHolds("tag 1 before 2", true);
        checks.dueHolds("tag 1 before 2", true, 1, 0);
        checks.dueHolds("tag 1 before 2", true, 2, 0);
        checks.dueHolds("tag 1 before 2", true, 1, 0, 1, 0, 3, 0, 2, 0, 2, 0);
        checks.dueHolds("tag 1 before 2", false, 2, 0, 1, 0);
        checks.dueHolds("tag 1 before 2", false, 2, 0, 3, 0, 1, 0);
        checks.dueHolds("tag 1 before 2", false, 1, 0, 2, 0, 1, 0);
        checks.dueHolds("tag 1 before 1", true, 1, 0);
        checks.dueHolds("tag 1 before 1", false, 1, 0, 1, 0);
    }

    /** The first field and the first subfield of the whole object count like any other. */
    private static void firstOfAll(Checks checks) {
        CheckRules2 x = Checks.with("hard tag 1 before 2", "hard tag 2 sub a must", "hard tag 2 sub a in 5");
        x.field(0, 2, 1);
        x.subfield(1, 'a', 6);
        x.field(0, 1, 1);
        checks.dueRun("the first of all", x, 0, 2);
        checks.due("before", x.broken(0, 0), 0);
        checks.due("in", x.broken(1, 0), 2);
    }

    private static void sum(Checks checks) {
        checks.dueHolds("sum 1 = 0", true);
        checks.dueHolds("sum 1 = 7", true, 1, 9, 2, 5, 1, -2);
        checks.dueHolds("sum 1 < 7", false, 1, 9, 1, -2);
        checks.dueHolds("sum 1 < 8", true, 1, 9, 1, -2);
        checks.dueHolds("sum 1 > 7", false, 1, 9, 1, -2);
        checks.dueHolds("sum 1 > 2147483647", true, 1, Integer.MAX_VALUE, 1, 1);
        checks.dueHolds("sum 1 < -2147483648", true, 1, Integer.MIN_VALUE, 1, -1);
        checks.dueHolds("sum 1 = 0", false, 1, Integer.MIN_VALUE, 1, Integer.MIN_VALUE);
    }

    private static void share(Checks checks) {
        checks.dueHolds("share 1 by 2 = 2", true, 1, 9, 2, 4);
        checks.dueHolds("share 1 by 2 = -2", true, 1, -9, 2, 4);
        checks.dueHolds("share 1 by 2 = 0", true, 1, -3, 2, 4);
        checks.dueHolds("share 1 by 2 = 0", true, 2, 4);
        checks.dueHolds("share 1 by 2 = 3", true, 1, 9, 2, 1, 2, 2);
        checks.dueHolds("share 1 by 1 = 1", true, 1, -9);
        checks.dueHolds("share 1 by 2 > 2147483647", true, 1, Integer.MIN_VALUE, 2, -1);
        checks.dueHolds("share 1 by 2 = 2", true, 1, Integer.MAX_VALUE, 1, Integer.MAX_VALUE, 2, Integer.MAX_VALUE);
        checks.dueHolds("share 1 by 2 < 2", false, 1, 9, 2, 4);
        checks.dueHolds("share 1 by 2 > 1", true, 1, 9, 2, 4);
    }

    /** Field 1 is there (holds: tag 1 must), field 2 is not. */
    private static void joined(Checks checks, String tests, int want) {
        CheckRules2 x = Checks.with("hard " + tests);
        x.field(0, 1, 1);
        checks.dueRun(tests, x, 0, want);
    }

    private static void joins(Checks checks) {
        joined(checks, "tag 1 must and tag 1 must", 0);
        joined(checks, "tag 1 must and tag 2 must", 1);
        joined(checks, "tag 2 must and tag 1 must", 1);
        joined(checks, "tag 1 must or tag 2 must", 0);
        joined(checks, "tag 2 must or tag 1 must", 0);
        joined(checks, "tag 2 must or tag 2 must", 1);
        joined(checks, "tag 1 must or tag 1 must and tag 2 must", 1);
        joined(checks, "tag 2 must and tag 2 must or tag 1 must", 0);
        joined(checks, "not tag 2 must and not tag 1 must", 1);
        joined(checks, "not tag 1 must or tag 1 must", 0);
    }

    private static void conditions(Checks checks) {
        joined(checks, "tag 2 must when tag 1 must", 1);
        joined(checks, "tag 2 must when tag 2 must", 0);
        joined(checks, "tag 1 must when tag 1 must", 0);
        joined(checks, "tag 1 must when tag 2 must", 0);
        joined(checks, "tag 2 must when tag 2 must or tag 1 must", 1);
        joined(checks, "tag 2 must when tag 1 must or tag 1 must and tag 2 must", 0);
        joined(checks, "tag 1 must and tag 2 must when not tag 2 must", 1);
        joined(checks, "tag 2 must or tag 2 must when tag 1 must and tag 2 must", 0);
    }

    /** Whether the rule fails for a record of tag 1 alone; share 1 by 2 does. */
    private static void fails(Checks checks, String tests, boolean want, int rulesNeverMet) {
        CheckRules2 x = Checks.with("hard " + tests);
        x.field(0, 1, 1);
        checks.dueRun(tests + ", held back", x, 0, 0);
        x.throwsUp(0, true);
        if (want) {
            checks.dueThrow(tests, x, 0);
        } else {
            checks.dueRun(tests, x, 0, 0);
        }
        checks.due(tests + ": never", x.never(0), rulesNeverMet == 0 ? -1 : 0);
    }

    private static void failing(Checks checks) {
        fails(checks, "share 1 by 2 = 0", true, 1);
        fails(checks, "not share 1 by 2 = 0", true, 1);
        fails(checks, "tag 1 must or share 1 by 2 = 0", true, 1);
        fails(checks, "tag 2 must and share 1 by 2 = 0", true, 1);
        fails(checks, "share 1 by 2 = 0 or tag 1 must", true, 1);
        fails(checks, "tag 1 must when share 1 by 2 = 0", true, 1);
        fails(checks, "tag 1 must when tag 2 must and share 1 by 2 = 0", true, 1);
        fails(checks, "tag 1 must when tag 1 must or share 1 by 2 = 0", true, 1);
        fails(checks, "share 1 by 2 = 0 when tag 1 must", true, 1);
        fails(checks, "share 1 by 2 = 0 when tag 2 must", false, 1);
        fails(checks, "share 2 by 1 = 0", false, 0);
    }
}
