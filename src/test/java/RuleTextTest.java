/** Promises 2 and 3: sign and rule, and the form of a rule's text. */
public final class RuleTextTest {
    private static final String FORTY = "1234567890123456789012345678901234567890";

    public static void main(String[] args) {
        Checks checks = new Checks("RuleTextTest");
        signs(checks);
        longTexts(checks);
        numbersOfRules(checks);
        rightTexts(checks);
        wrongWords(checks);
        wrongTestsByTag(checks);
        wrongSums(checks);
        wrongNumbers(checks);
        wrongLists(checks);
        wrongJoins(checks);
        wrongMessages(checks);
        brokenOff(checks);
        checks.end();
    }

    private static void signs(Checks checks) {
        CheckRules2 x = new CheckRules2();
        String text = "hard tag 1 must: e";
        int[] shifts = {256, -256, 0x7fffff00, 0x80000000};
        for (int i = 0; i < text.length(); i++) {
            x.sign(text.charAt(i) + shifts[i % shifts.length]);
        }
        checks.due("the lowest eight bits", x.rule(), 0);
        checks.dueRun("run(0)", x, 0, 1);
        checks.due("message of the lowest eight bits", x.message(0, 0), 'e');
        Checks.collect(x, "hard tag 1 must: ");
        x.sign(-1);
        checks.due("255 is no sign of a message", x.rule(), -1 - 17);
        Checks.collect(x, "hard tag 1 must: ");
        x.sign('x' + 128);
        checks.due("the eighth bit counts", x.rule(), -1 - 17);
    }

    private static void longTexts(Checks checks) {
        // 19 TESTS of 9 signs, joined by or: 248 signs, so that the next two end the text.
        StringBuilder text = new StringBuilder("warn sum 1 = 1");
        for (int i = 1; i < 19; i++) {
            text.append(" or sum 1 = 1");
        }
        checks.due("length", text.length(), 248);
        checks.dueRight(text.toString());
        checks.dueRight(text + "23");
        checks.dueRight(text + "23 and what is lost is not looked at");
        checks.dueWrong(text + " o", 249);
        checks.dueWrong(text + " or sum 1 = 1", 249);
        checks.dueWrong(text + ": lost", 250);
        CheckRules2 x = Checks.with(text + "23456789");
        x.field(0, 1, 123);
        checks.dueRun("the 250th sign counts, the 251st does not", x, 0, 0);
        checks.due("nothing is collected any more", Checks.tell(x, "hard tag 1 must"), 1);
    }

    private static void numbersOfRules(Checks checks) {
        CheckRules2 x = new CheckRules2();
        for (int i = 0; i < 5; i++) {
            checks.due("number", Checks.tell(x, "hard tag 1 must"), i);
            checks.due("nothing collected", x.rule(), -1);
        }
        checks.due("wrong", Checks.tell(x, "hard tag 1 muss"), -1 - 11);
        checks.due("a wrong one takes no number and leaves nothing", Checks.tell(x, "warn sum 1 = 1"), 5);
        CheckRules2 full = new CheckRules2();
        for (int i = 0; i < 30; i++) {
            checks.due("number", Checks.tell(full, "warn tag 1 once"), i);
        }
        checks.due("the 31st", Checks.tell(full, "hard tag 1 must"), -301);
        checks.due("nothing is collected behind the 31st", full.rule(), -1);
        checks.due("a wrong 31st", Checks.tell(full, "hard tag"), -1 - 8);
        checks.due("the 30th stands", full.never(29), 29);
        checks.due("no 31st stands", full.never(30), -1);
    }

    private static void rightTexts(Checks checks) {
        String[] texts = {
            "hard tag 0 must", "warn tag 999 once", "hard tag 007 sub z must", "hard tag 1 sub a in 1",
            "hard tag 1 sub a in 1,2,3,4,5,6,7,8", "hard tag 1 sub a in -1,-0,0000000001,-0000000001",
            "hard tag 1 value = 2147483647", "hard tag 1 value < -2147483648", "hard tag 1 value > 0",
            "hard tag 1 like #", "hard tag 1 like 12345#7890", "hard tag 1 before 1", "warn sum 12 = -5",
            "warn share 1 by 2 > 3", "hard not tag 1 must", "hard not share 1 by 2 = 3",
            "hard tag 1 must and not tag 2 once or sum 3 = 1",
            "hard tag 1 must when tag 2 must", "hard tag 1 must and tag 2 must when not tag 3 must or sum 1 = 1",
            "hard tag 1 must: x", "hard tag 1 must:  ", "hard tag 1 must: : when ~", "hard sum 1 = 1: " + FORTY,
            "hard tag 1 like #: m", "hard tag 1 before 2: m", "hard tag 1 sub a in 1: m",
            "hard tag 1 must when tag 2 must: m"};
        for (String text : texts) {
            checks.dueRight(text);
        }
    }

    private static void wrongWords(Checks checks) {
        checks.dueWrong("", 0);
        checks.dueWrong(" hard tag 1 must", 0);
        checks.dueWrong("hurd tag 1 must", 0);
        checks.dueWrong("yard tag 1 must", 0);
        checks.dueWrong("hard sag 1 must", 5);
        checks.dueWrong("hard tap 1 must", 5);
        checks.dueWrong("Hard tag 1 must", 0);
        checks.dueWrong("harD tag 1 must", 0);
        checks.dueWrong("hardy tag 1 must", 0);
        checks.dueWrong("hardwarn tag 1 must", 0);
        checks.dueWrong("hard1 tag 1 must", 4);
        checks.dueWrong("hard: tag 1 must", 4);
        checks.dueWrong("hard  tag 1 must", 5);
        checks.dueWrong("hard 1", 5);
        checks.dueWrong("hard must", 5);
        checks.dueWrong("hard tags 1 must", 5);
        checks.dueWrong("hard not not tag 1 must", 9);
        checks.dueWrong("hard nottag 1 must", 5);
        checks.dueWrong("hard not", 8);
        checks.dueWrong("hard not ", 9);
        checks.dueWrong("hard not must", 9);
    }

    private static void wrongTestsByTag(Checks checks) {
        checks.dueWrong("hard tag1 must", 8);
        checks.dueWrong("hard tag x must", 9);
        checks.dueWrong("hard tag  1 must", 9);
        checks.dueWrong("hard tag 1must", 10);
        checks.dueWrong("hard tag 1  must", 11);
        checks.dueWrong("hard tag 1 musty", 11);
        checks.dueWrong("hard tag 1 in 1", 11);
        checks.dueWrong("hard tag 1 must1", 15);
        checks.dueWrong("hard tag 1 sub A must", 15);
        checks.dueWrong("hard tag 1 sub  must", 15);
        checks.dueWrong("hard tag 1 sub ab must", 16);
        checks.dueWrong("hard tag 1 sub a once", 17);
        checks.dueWrong("hard tag 1 sub a", 16);
        checks.dueWrong("hard tag 1 sub a ", 17);
        checks.dueWrong("hard tag 1 like ", 16);
        checks.dueWrong("hard tag 1 like x", 16);
        checks.dueWrong("hard tag 1 like 12345678901", 16);
        checks.dueWrong("hard tag 1 like ###########", 16);
        checks.dueWrong("hard tag 1 like -1", 16);
        checks.dueWrong("hard tag 1 like 1x", 17);
        checks.dueWrong("hard tag 1 before", 17);
        checks.dueWrong("hard tag 1 before tag 2", 18);
        checks.dueWrong("hard tag 1 before 1000", 18);
    }

    private static void wrongSums(Checks checks) {
        checks.dueWrong("hard tag 1 value 5", 17);
        checks.dueWrong("hard tag 1 value ! 5", 17);
        checks.dueWrong("hard tag 1 value =5", 18);
        checks.dueWrong("hard tag 1 value == 5", 18);
        checks.dueWrong("hard tag 1 value = x", 19);
        checks.dueWrong("hard tag 1 value =", 18);
        checks.dueWrong("hard tag 1 value = ", 19);
        checks.dueWrong("hard sum", 8);
        checks.dueWrong("hard sum 1", 10);
        checks.dueWrong("hard sum 1 by 2 = 1", 11);
        checks.dueWrong("hard sum 1 must", 11);
        checks.dueWrong("hard share 1 = 2", 13);
        checks.dueWrong("hard share 1 by", 15);
        checks.dueWrong("hard share 1 by x = 1", 16);
        checks.dueWrong("hard share 1 by 2", 17);
        checks.dueWrong("hard share 1 by 2 of 3", 18);
        checks.dueWrong("hard share 1 by 2 = ", 20);
    }

    private static void wrongNumbers(Checks checks) {
        checks.dueWrong("hard tag 1000 must", 9);
        checks.dueWrong("hard tag 0001 must", 9);
        checks.dueWrong("hard tag -1 must", 9);
        checks.dueWrong("hard share 1 by 1234 = 1", 16);
        checks.dueWrong("hard sum 1 = 2147483648", 13);
        checks.dueWrong("hard sum 1 = -2147483649", 13);
        checks.dueWrong("hard sum 1 = 9999999999", 13);
        checks.dueWrong("hard sum 1 = 00000000001", 13);
        checks.dueWrong("hard sum 1 = -00000000001", 13);
        checks.dueWrong("hard sum 1 = -", 13);
        checks.dueWrong("hard sum 1 = - 5", 13);
        checks.dueWrong("hard sum 1 = --5", 13);
        checks.dueWrong("hard sum 1 = +5", 13);
        checks.dueWrong("hard sum 1 = 5x", 14);
        checks.dueWrong("hard sum 1 = 5-", 14);
    }

    private static void wrongLists(Checks checks) {
        String list = "hard tag 1 sub a in ";
        checks.dueWrong("hard tag 1 sub a in", 19);
        checks.dueWrong(list, 20);
        checks.dueWrong(list + ",1", 20);
        checks.dueWrong(list + "1,", 22);
        checks.dueWrong(list + "1,,2", 22);
        checks.dueWrong(list + "1, 2", 22);
        checks.dueWrong(list + "1,-", 22);
        checks.dueWrong(list + "1,-,2", 22);
        checks.dueWrong(list + "1,2147483648", 22);
        checks.dueWrong(list + "1 ,2", 22);
        checks.dueWrong(list + "1,2,3,4,5,6,7,8,9", 20);
        checks.dueWrong(list + "1,2,3,4,5,6,7,8,9,10 and", 20);
        checks.dueWrong(list + "-1,2,3,4,5,6,7,8,-9: m", 20);
        checks.dueWrong(list + "1,x,3,4,5,6,7,8,9", 22);
        checks.dueWrong(list + "1,2,3,4,5,6,7,8,", 36);
        checks.dueWrong(list + "1,2,3,4,5,6,7,8,x", 36);
    }

    private static void wrongJoins(Checks checks) {
        checks.dueWrong("hard tag 1 must ", 16);
        checks.dueWrong("hard tag 1 must  and tag 2 must", 16);
        checks.dueWrong("hard tag 1 must tag 2 must", 16);
        checks.dueWrong("hard tag 1 must xor tag 2 must", 16);
        checks.dueWrong("hard tag 1 must andy", 16);
        checks.dueWrong("hard tag 1 must and", 19);
        checks.dueWrong("hard tag 1 must and ", 20);
        checks.dueWrong("hard tag 1 must and or", 20);
        checks.dueWrong("hard tag 1 must when", 20);
        checks.dueWrong("hard tag 1 must when ", 21);
        checks.dueWrong("hard when tag 1 must", 5);
        checks.dueWrong("hard tag 1 must when tag 2 must when tag 3 must", 32);
        checks.dueWrong("hard tag 1 must when when", 21);
        checks.dueWrong("hard tag 1 must, tag 2 must", 15);
    }

    private static void wrongMessages(Checks checks) {
        checks.dueWrong("hard tag 1 must:", 16);
        checks.dueWrong("hard tag 1 must: ", 17);
        checks.dueWrong("hard tag 1 must:x", 16);
        checks.dueWrong("hard tag 1 must : x", 16);
        checks.dueWrong("hard: x", 4);
        checks.dueWrong("hard tag 1 must: a\tb", 18);
        checks.dueWrong("hard tag 1 must: " + (char) 127, 17);
        checks.dueWrong("hard tag 1 must: " + (char) 31, 17);
        checks.dueWrong("hard tag 1 must: " + FORTY + "1", 57);
        checks.dueWrong("hard tag 1 must: " + FORTY + "12345\t", 57);
        checks.dueWrong("hard tag 1 must: ab\t" + FORTY, 19);
    }

    /** Of each right text, every beginning: a word that is broken off counts from its first sign. */
    private static void brokenOff(Checks checks) {
        String text = "hard not tag 1 sub a in 5 and share 1 by 2 > -7 when tag 3 before 4 or sum 5 = 6: m";
        for (int end = 0; end < text.length(); end++) {
            String beginning = text.substring(0, end);
            String last = beginning.substring(beginning.lastIndexOf(' ') + 1);
            boolean whole = text.charAt(end) == ' ' || last.isEmpty();
            int place = whole || !last.matches("[a-z]+|-") ? end : end - last.length();
            if (beginning.matches(".* (in 5|-7|4|= 6)|.*: m")) {
                checks.dueRight(beginning);
            } else {
                checks.dueWrong(beginning, place);
            }
        }
    }
}
