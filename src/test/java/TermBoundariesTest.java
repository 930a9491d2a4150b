/** The boundary cases of what TESTS say and of when a rule is broken, met or fails: a method for each sentence. */
public final class TermBoundariesTest {
    private static final int MIN = Integer.MIN_VALUE;
    private static final int MAX = Integer.MAX_VALUE;

    public static void main(String[] args) {
        Checks checks = new Checks("TermBoundariesTest");
        must(checks);
        once(checks);
        subMust(checks);
        subIn(checks);
        value(checks);
        likeNotBelowZero(checks);
        likeAsManyDigits(checks);
        likeDigits(checks);
        before(checks);
        sumOfNone(checks);
        sumOf64Bits(checks);
        shareCutTowardsZero(checks);
        shareOf64Bits(checks);
        shareWithoutSum(checks);
        tagsOfTexts(checks);
        leftToRight(checks);
        allAreLookedAt(checks);
        breaks(checks);
        met(checks);
        whenFirst(checks);
        failsNotBrokenNotMet(checks);
        checks.end();
    }

    private static void must(Checks checks) {
        checks.sentence("must: a field has tag N");
        checks.dueHolds("tag 3 must", false);
        checks.dueHolds("tag 3 must", false, 2, 3, 4, 3);
        checks.dueHolds("tag 3 must", true, 3, 0);
        checks.dueHolds("tag 3 must", true, 3, 0, 3, 0);
        checks.dueHolds("tag 0 must", true, 0, 0);
        checks.dueHolds("tag 0 must", false, 1, 0);
        checks.dueHolds("tag 999 must", true, 999, 0);
        checks.dueHolds("tag 999 must", false, 998, 0);
    }

    private static void once(Checks checks) {
        checks.sentence("once: not two fields have it");
        checks.dueHolds("tag 3 once", true);
        checks.dueHolds("tag 3 once", true, 3, 0);
        checks.dueHolds("tag 3 once", false, 3, 0, 3, 1);
        checks.dueHolds("tag 3 once", false, 3, 0, 3, 0, 3, 0);
        checks.dueHolds("tag 3 once", true, 2, 0, 2, 0, 3, 0, 4, 0, 4, 0);
    }

    private static void subMust(Checks checks) {
        checks.sentence("sub C must: each field of tag N has a subfield C");
        CheckRules2 x = Checks.with("hard tag 3 sub m must");
        checks.dueRun("no field", x, 0, 0);
        x.field(0, 3, 0);
        checks.dueRun("a field without subfields", x, 0, 1);
        x.subfield(1, 'l', 0);
        x.subfield(1, 'n', 0);
        checks.dueRun("the codes beside it", x, 0, 1);
        x.subfield(1, 'm', MIN);
        checks.dueRun("any value", x, 0, 0);
        x.field(0, 4, 0);
        x.field(1, 3, 0);
        checks.dueRun("another tag's and another record's field need none", x, 0, 0);
        x.field(0, 3, 0);
        checks.dueRun("the last of two fields has none", x, 0, 1);
        x.subfield(2, 'm', 0);
        x.subfield(3, 'm', 0);
        x.subfield(1, 'm', 0);
        checks.dueRun("the others' subfields do not count for it", x, 0, 1);
        x.subfield(4, 'm', 0);
        checks.dueRun("both have one", x, 0, 0);
        CheckRules2 first = Checks.with("hard tag 3 sub a must", "hard tag 3 sub z must");
        first.field(0, 3, 0);
        first.subfield(1, 'a', 0);
        checks.dueRun("the first subfield of all", first, 0, 1);
        first.subfield(1, 'z', 0);
        checks.dueRun("the last one", first, 0, 0);
    }

    /** Whether a list has the value of the only subfield. */
    private static void listHas(Checks checks, String list, int value, boolean want) {
        CheckRules2 x = Checks.with("hard tag 3 sub a in " + list);
        x.field(0, 3, 0);
        x.subfield(1, 'a', value);
        checks.dueRun("in " + list + " of " + value, x, 0, want ? 0 : 1);
    }

    private static void subIn(Checks checks) {
        checks.sentence("in V,V,..: each subfield C of each field of tag N is one of these, 1 to 8");
        listHas(checks, "5", 5, true);
        listHas(checks, "5", 4, false);
        listHas(checks, "5", 6, false);
        listHas(checks, "5", 0, false);
        String eight = "-2147483648,-1,1,20,300,4000,50000,2147483647";
        for (int value : new int[] {MIN, -1, 1, 20, 300, 4000, 50000, MAX}) {
            listHas(checks, eight, value, true);
        }
        for (int value : new int[] {MIN + 1, 0, -20, 2, 3000, 49999, MAX - 1}) {
            listHas(checks, eight, value, false);
        }
        CheckRules2 x = Checks.with("hard tag 3 sub a in 5");
        checks.dueRun("no field", x, 0, 0);
        x.field(0, 3, 6);
        checks.dueRun("no subfield", x, 0, 0);
        x.subfield(1, 'b', 6);
        x.field(0, 4, 6);
        x.subfield(2, 'a', 6);
        x.field(1, 3, 6);
        x.subfield(3, 'a', 6);
        checks.dueRun("another code, tag, record", x, 0, 0);
        x.field(0, 3, 5);
        x.subfield(4, 'a', 5);
        x.subfield(4, 'a', 6);
        checks.dueRun("the last subfield of the last field", x, 0, 1);
    }

    private static void value(Checks checks) {
        checks.sentence("value O V: the value of each field of tag N is O V");
        for (String o : new String[] {"=", "<", ">"}) {
            for (int bound : new int[] {MIN, -1, 0, 1, MAX}) {
                for (long near = bound - 1L; near <= bound + 1L; near++) {
                    if (near >= MIN && near <= MAX) {
                        boolean want = o.equals("=") ? near == bound : o.equals("<") ? near < bound : near > bound;
                        checks.dueHolds("tag 3 value " + o + " " + bound, want, 3, (int) near);
                    }
                }
            }
            checks.dueHolds("tag 3 value " + o + " 5", true);
        }
        checks.dueHolds("tag 3 value < 0", true, 3, MIN);
        checks.dueHolds("tag 3 value < -1", false, 3, MAX);
        checks.dueHolds("tag 3 value > 0", true, 3, 1, 4, 0, 3, 1);
        checks.dueHolds("tag 3 value > 0", false, 3, 1, 3, 0);
        checks.dueHolds("tag 3 value > 0", false, 3, 0, 3, 1);
    }

    private static void likeNotBelowZero(Checks checks) {
        checks.sentence("like P: the value of each field of tag N, not below 0");
        checks.dueHolds("tag 3 like #", true, 3, 0);
        checks.dueHolds("tag 3 like #", true, 3, 1);
        checks.dueHolds("tag 3 like #", false, 3, -1);
        checks.dueHolds("tag 3 like ##", false, 3, -1);
        checks.dueHolds("tag 3 like 1", false, 3, -1);
        checks.dueHolds("tag 3 like ##########", false, 3, MIN);
        checks.dueHolds("tag 3 like 2147483648", false, 3, MIN);
        checks.dueHolds("tag 3 like #", false, 3, 1, 3, -1);
    }

    private static void likeAsManyDigits(Checks checks) {
        checks.sentence("like P: as many decimal digits (of 0: one) as P signs");
        checks.dueHolds("tag 3 like 0", true, 3, 0);
        checks.dueHolds("tag 3 like ##", false, 3, 0);
        checks.dueHolds("tag 3 like 00", false, 3, 0);
        String pattern = "#";
        int low = 1;
        for (int digits = 1; digits <= 9; digits++) {
            checks.dueHolds("tag 3 like " + pattern, true, 3, low);
            checks.dueHolds("tag 3 like " + pattern, true, 3, low * 10L - 1 > MAX ? MAX : (int) (low * 10L - 1));
            checks.dueHolds("tag 3 like " + pattern, false, 3, low * 10);
            checks.dueHolds("tag 3 like #" + pattern, false, 3, low);
            pattern += "#";
            low *= 10;
        }
        checks.dueHolds("tag 3 like ##########", true, 3, 1000000000);
        checks.dueHolds("tag 3 like ##########", true, 3, MAX);
        checks.dueHolds("tag 3 like ##########", false, 3, 999999999);
        checks.dueHolds("tag 3 like 05", false, 3, 5);
    }

    private static void likeDigits(Checks checks) {
        checks.sentence("like P: each is the same as P's, where that is a digit");
        checks.dueHolds("tag 3 like 2147483647", true, 3, MAX);
        checks.dueHolds("tag 3 like 2147483646", false, 3, MAX);
        checks.dueHolds("tag 3 like 1147483647", false, 3, MAX);
        checks.dueHolds("tag 3 like 9999999999", false, 3, MAX);
        checks.dueHolds("tag 3 like 1#3", true, 3, 103, 3, 193);
        checks.dueHolds("tag 3 like 1#3", false, 3, 103, 3, 102);
        checks.dueHolds("tag 3 like 1#3", false, 3, 203, 3, 103);
        checks.dueHolds("tag 3 like #2#", true, 3, 929, 3, 120);
        checks.dueHolds("tag 3 like #2#", false, 3, 212);
        checks.dueHolds("tag 3 like 9", false, 3, 0);
        checks.dueHolds("tag 3 like 9", true);
    }

    private static void before(Checks checks) {
        checks.sentence("before M: no field of tag N stands behind one of tag M");
        checks.dueHolds("tag 3 before 4", true);
        checks.dueHolds("tag 3 before 4", true, 3, 0, 3, 0);
        checks.dueHolds("tag 3 before 4", true, 4, 0, 4, 0);
        checks.dueHolds("tag 3 before 4", true, 3, 9, 3, 9, 4, 0, 4, 0);
        checks.dueHolds("tag 3 before 4", false, 4, 0, 3, 0);
        checks.dueHolds("tag 3 before 4", false, 4, 0, 3, 0, 4, 0);
        checks.dueHolds("tag 3 before 4", false, 3, 0, 4, 0, 5, 0, 3, 0);
        checks.dueHolds("tag 3 before 3", true, 3, 0);
        checks.dueHolds("tag 3 before 3", false, 3, 0, 3, 0);
        CheckRules2 x = Checks.with("hard tag 3 before 4");
        x.field(1, 4, 0);
        x.field(0, 3, 0);
        checks.dueRun("another record's field of tag M", x, 0, 0);
        x.field(1, 3, 0);
        checks.dueRun("the first field of all is of tag M, the last of tag N", x, 1, 1);
    }

    private static void sumOfNone(Checks checks) {
        checks.sentence("sum N: the sum of the values of all fields of tag N");
        checks.dueHolds("sum 3 = 0", true);
        checks.dueHolds("sum 3 < 0", false);
        checks.dueHolds("sum 3 > 0", false);
        checks.dueHolds("sum 3 = 5", true, 3, 5);
        checks.dueHolds("sum 3 = 5", true, 3, 7, 4, 100, 3, -2);
        checks.dueHolds("sum 3 > 4", true, 3, 5);
        checks.dueHolds("sum 3 > 5", false, 3, 5);
        checks.dueHolds("sum 3 < 5", false, 3, 5);
        checks.dueHolds("sum 3 < 6", true, 3, 5);
    }

    private static void sumOf64Bits(Checks checks) {
        checks.sentence("sum N: of 64 bits");
        checks.dueHolds("sum 3 > 2147483647", true, 3, MAX, 3, 1);
        checks.dueHolds("sum 3 > 2147483647", false, 3, MAX, 3, 0);
        checks.dueHolds("sum 3 < -2147483648", true, 3, MIN, 3, -1);
        checks.dueHolds("sum 3 < -2147483648", false, 3, MIN);
        checks.dueHolds("sum 3 = 0", false, 3, MIN, 3, MIN);
        checks.dueHolds("sum 3 = -2", false, 3, MAX, 3, MAX);
        CheckRules2 x = Checks.with("hard sum 3 > 2147483647");
        for (int i = 0; i < 200; i++) {
            x.field(0, 3, MAX);
        }
        checks.dueRun("200 of the greatest", x, 0, 0);
    }

    private static void shareCutTowardsZero(Checks checks) {
        checks.sentence("share N by M: divided (cut towards 0)");
        int[][] shares = {{7, 2, 3}, {-7, 2, -3}, {7, -2, -3}, {-7, -2, 3}, {1, 2, 0}, {-1, 2, 0}, {0, 5, 0}, {6, 2, 3}};
        for (int[] share : shares) {
            checks.dueHolds("share 3 by 4 = " + share[2], true, 3, share[0], 4, share[1]);
            checks.dueHolds("share 3 by 4 > " + share[2], false, 3, share[0], 4, share[1]);
            checks.dueHolds("share 3 by 4 < " + share[2], false, 3, share[0], 4, share[1]);
            checks.dueHolds("share 3 by 4 > " + (share[2] - 1), true, 3, share[0], 4, share[1]);
            checks.dueHolds("share 3 by 4 < " + (share[2] + 1), true, 3, share[0], 4, share[1]);
        }
        checks.dueHolds("share 3 by 4 = 0", true, 4, 5);
        checks.dueHolds("share 3 by 3 = 1", true, 3, -5);
    }

    private static void shareOf64Bits(Checks checks) {
        checks.sentence("share N by M: the sums are of 64 bits");
        checks.dueHolds("share 3 by 4 > 2147483647", true, 3, MIN, 4, -1);
        checks.dueHolds("share 3 by 4 = -2147483648", false, 3, MIN, 4, -1);
        checks.dueHolds("share 3 by 4 = 2", true, 3, MAX, 3, MAX, 4, MAX);
        checks.dueHolds("share 3 by 4 = 1", true, 3, MIN, 3, MIN, 4, MIN, 4, MIN);
    }

    /** Whether a rule, let through, throws where record 0 has these fields. */
    private static void fails(Checks checks, String text, boolean want, int... fields) {
        CheckRules2 x = Checks.with("hard " + text);
        x.throwsUp(0, true);
        x.field(1, 4, 1);
        for (int i = 0; i + 1 < fields.length; i += 2) {
            x.field(0, fields[i], fields[i + 1]);
        }
        if (want) {
            checks.dueThrow(text, x, 0);
        } else {
            checks.dueRun(text, x, 0, 0);
        }
    }

    private static void shareWithoutSum(Checks checks) {
        checks.sentence("share N by M: without a sum of M (0) it FAILS");
        fails(checks, "share 3 by 4 = 0", true);
        fails(checks, "share 3 by 4 = 0", true, 3, 1);
        fails(checks, "share 3 by 4 = 0", true, 3, 1, 4, 0);
        fails(checks, "share 3 by 4 = 0", true, 3, 1, 4, 7, 4, -7);
        fails(checks, "share 3 by 4 = 0", true, 3, 0, 4, MIN, 4, MAX, 4, 1);
        fails(checks, "not share 3 by 4 = 0", true, 3, 1);
        fails(checks, "share 3 by 3 = 1", true);
        fails(checks, "share 3 by 4 = 1", false, 3, 1, 4, 1);
        fails(checks, "share 3 by 4 = -1", false, 3, 1, 4, -1);
        fails(checks, "share 3 by 4 = 0", false, 4, 1);
        fails(checks, "share 3 by 4 = 0", false, 3, 1, 4, MIN, 4, MIN);
    }

    private static void tagsOfTexts(Checks checks) {
        checks.sentence("N and M are tags in 1 to 3 digits");
        checks.dueHolds("tag 00 must", true, 0, 0);
        checks.dueHolds("tag 010 must", true, 10, 0);
        checks.dueHolds("tag 010 must", false, 8, 0);
        checks.dueHolds("sum 007 = 5", true, 7, 5);
        checks.dueHolds("share 020 by 002 = 10", true, 20, 50, 2, 5);
        checks.dueHolds("tag 998 before 999", false, 999, 0, 998, 0);
    }

    /** Whether TESTS hold, of which tag 1 must does and tag 2 must does not. */
    private static void joined(Checks checks, String tests, boolean want) {
        CheckRules2 x = Checks.with("hard " + tests.replace("yes", "tag 1 must").replace("no", "tag 2 must"));
        x.field(0, 1, 0);
        checks.dueRun(tests, x, 0, want ? 0 : 1);
    }

    private static void leftToRight(Checks checks) {
        checks.sentence("from the left to the right, none before another one");
        joined(checks, "yes or yes and no", false);
        joined(checks, "yes or no and no", false);
        joined(checks, "no and no or yes", true);
        joined(checks, "no and yes or yes and yes", true);
        joined(checks, "yes or yes or yes and no", false);
        joined(checks, "yes and no or yes and no or yes", true);
        joined(checks, "no when yes or yes and no", true);
        joined(checks, "no when no and no or yes", false);
    }

    private static void allAreLookedAt(Checks checks) {
        checks.sentence("TESTS: all are looked at");
        String share = "share 3 by 4 = 0";
        fails(checks, "tag 1 must or " + share, true, 1, 0);
        fails(checks, "tag 2 must and " + share, true, 1, 0);
        fails(checks, share + " or tag 1 must", true, 1, 0);
        fails(checks, "tag 1 must or tag 1 must or " + share + " or tag 1 must", true, 1, 0);
        fails(checks, "tag 1 must when tag 2 must and " + share, true, 1, 0);
        fails(checks, "tag 1 must when tag 1 must or " + share, true, 1, 0);
        fails(checks, "tag 1 must when " + share + " and tag 2 must", true, 1, 0);
    }

    private static void breaks(Checks checks) {
        checks.sentence("a record BREAKS a rule if TESTS behind when, if there are any, hold, and the others do not");
        joined(checks, "yes", true);
        joined(checks, "no", false);
        joined(checks, "yes when yes", true);
        joined(checks, "no when yes", false);
        joined(checks, "yes when no", true);
        joined(checks, "no when no", true);
        joined(checks, "no or no when no", true);
        joined(checks, "no and yes when no", true);
        joined(checks, "no or no when yes", false);
        joined(checks, "yes and no when yes", false);
    }

    /** Whether a run meets the rule: tag 1 must holds, tag 2 must does not, share 3 by 4 fails. */
    private static void meets(Checks checks, String tests, boolean want) {
        CheckRules2 x = Checks.with("hard " + tests);
        x.field(0, 1, 0);
        int broken = x.run(0);
        checks.due(tests + ": met", x.never(0), want ? -1 : 0);
        checks.due(tests + ": broken only if it is met", broken == 1 && !want, false);
    }

    private static void met(Checks checks) {
        checks.sentence("the rule is MET if the ones behind when hold (or there are none)");
        meets(checks, "tag 1 must", true);
        meets(checks, "tag 2 must", true);
        meets(checks, "tag 1 must when tag 1 must", true);
        meets(checks, "tag 2 must when tag 1 must", true);
        meets(checks, "tag 1 must when tag 2 must", false);
        meets(checks, "tag 2 must when tag 2 must", false);
    }

    private static void whenFirst(Checks checks) {
        checks.sentence("the ones behind when are looked at first; if they do not hold, the others are not looked at");
        fails(checks, "share 3 by 4 = 0 when tag 2 must", false, 1, 0);
        fails(checks, "share 3 by 4 = 0 when tag 1 must", true, 1, 0);
        fails(checks, "tag 1 must and share 3 by 4 = 0 when tag 1 must and tag 2 must", false, 1, 0);
        fails(checks, "tag 1 must when share 3 by 4 = 0", true, 1, 0);
    }

    private static void failsNotBrokenNotMet(Checks checks) {
        checks.sentence("a rule FAILS if one of its TESTS does: it is not broken then, and not met");
        for (String level : new String[] {"hard ", "warn "}) {
            for (String tests : new String[] {"share 3 by 4 = 1", "tag 2 must and share 3 by 4 = 1",
                    "share 3 by 4 = 1 when tag 1 must", "tag 2 must when tag 1 must or share 3 by 4 = 1"}) {
                CheckRules2 x = Checks.with(level + tests);
                x.field(0, 1, 0);
                checks.dueRun(tests, x, 0, 0);
                checks.due(tests + ": broken(0, 0)", x.broken(0, 0), -1);
                checks.due(tests + ": never(0)", x.never(0), 0);
                checks.due(tests + ": warning(0, 0)", x.warning(0, 0), -1);
            }
        }
        meets(checks, "share 3 by 4 = 0", false);
        meets(checks, "tag 1 must when share 3 by 4 = 0", false);
    }
}
