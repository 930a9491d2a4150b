/** The boundary cases of a rule's text (Terms, promises 2 and 3): a method for each sentence that names one. */
public final class TextBoundariesTest {
    private static final String RULE = "hard tag 1 must";
    private static final String TEN = "1234567890";
    private static final String[] WHOLE = {
        RULE, "warn tag 12 once", "hard tag 123 sub a must", "hard tag 1 sub z in -1,2", "warn tag 1 value < 5",
        "hard tag 1 like 1#", "hard tag 1 before 2", "hard sum 1 = 2", "warn share 1 by 2 > 3",
        "hard not tag 1 must and sum 2 = -1 or tag 3 once when not share 4 by 5 = 1 and tag 6 like # or tag 7 must"};

    public static void main(String[] args) {
        Checks checks = new Checks("TextBoundariesTest");
        lowestEightBits(checks);
        beyond250(checks);
        emptyText(checks);
        nothingCollectedAnyMore(checks);
        thirtyRules(checks);
        wrongBeyondThirty(checks);
        levels(checks);
        oneWhen(checks);
        messageLength(checks);
        messageSigns(checks);
        testsInARule(checks);
        oneNot(checks);
        smallLetters(checks);
        otherWords(checks);
        oneSpace(checks);
        textsEnd(checks);
        brokenOffWord(checks);
        tooLongWord(checks);
        digitsOfTags(checks);
        letterOfSub(checks);
        digitsOfValues(checks);
        valuesWithinAnInt(checks);
        minusWithoutDigits(checks);
        comparisons(checks);
        lengthOfLists(checks);
        lengthOfPatterns(checks);
        firstWrongPlace(checks);
        checks.end();
    }

    private static void lowestEightBits(Checks checks) {
        checks.sentence("sign: the lowest eight bits");
        int[] wraps = {256, -256, 512, 0x7fffff00, Integer.MIN_VALUE};
        for (int wrap : wraps) {
            CheckRules2 x = new CheckRules2();
            Checks.collect(x, "hard tag 1 must: ");
            x.sign('~' + wrap);
            checks.due("'~' + " + wrap, x.rule(), 0);
            checks.dueRun("run(0)", x, 0, 1);
            checks.due("message(0, 0)", x.message(0, 0), '~');
        }
        int[] others = {'~' + 128, '~' - 128, -1, 0, 256, Integer.MAX_VALUE, Integer.MIN_VALUE};
        for (int other : others) {
            CheckRules2 x = new CheckRules2();
            Checks.collect(x, "hard tag 1 must: ");
            x.sign(other);
            checks.due("sign(" + other + ")", x.rule(), -1 - 17);
        }
    }

    /** A rule of so many signs: shortest TESTS, the first V with zeros before it and the last one with more digits. */
    private static String filledTo(int length) {
        int more = (length - 14) % 13;
        StringBuilder text = new StringBuilder("hard sum 1 = 1");
        while (text.length() + 13 + more <= length) {
            text.append(" or sum 1 = 1");
        }
        text.append(TEN, 0, Math.min(more, 9));
        return text.toString().replaceFirst("= ", "= " + "0".repeat(Math.max(more - 9, 0)));
    }

    private static void beyond250(Checks checks) {
        checks.sentence("sign: beyond 250 it is lost");
        checks.dueRight(filledTo(249));
        checks.dueRight(filledTo(250));
        checks.dueRight(filledTo(250) + "!");
        checks.dueWrong(filledTo(249) + "!", 249);
        checks.dueWrong(filledTo(249) + " ", 250);
        checks.dueWrong(filledTo(249) + " or sum 1 = 1", 250);
        checks.dueWrong(filledTo(248) + ": message", 250);
        CheckRules2 x = new CheckRules2();
        checks.due("a message's first sign is the 250th", Checks.tell(x, filledTo(247) + ": ab"), 0);
        checks.dueRun("run(0)", x, 0, 1);
        checks.due("message(0, 0)", x.message(0, 0), 'a');
        checks.due("message(0, 1)", x.message(0, 1), -1);
    }

    private static void emptyText(Checks checks) {
        checks.sentence("rule: what is collected; in a new object nothing is");
        CheckRules2 x = new CheckRules2();
        checks.due("rule()", x.rule(), -1);
        checks.due("rule() again", x.rule(), -1);
        checks.due("the first rule", Checks.tell(x, RULE), 0);
    }

    private static void nothingCollectedAnyMore(Checks checks) {
        checks.sentence("rule: nothing is collected any more");
        CheckRules2 x = new CheckRules2();
        checks.due("a right one", Checks.tell(x, RULE), 0);
        checks.due("rule() behind a right one", x.rule(), -1);
        checks.due("a wrong one", Checks.tell(x, RULE + "!"), -1 - 15);
        checks.due("rule() behind a wrong one", x.rule(), -1);
        CheckRules2 full = Checks.with(filledTo(250));
        checks.due("behind one of 250 signs there is room again", Checks.tell(full, filledTo(250)), 1);
    }

    private static CheckRules2 withThirty(Checks checks) {
        CheckRules2 x = new CheckRules2();
        for (int number = 0; number < 30; number++) {
            checks.due("rule " + number, Checks.tell(x, "hard sum 1 = 1"), number);
        }
        return x;
    }

    private static void thirtyRules(Checks checks) {
        checks.sentence("rule: -1 less 300 if there are 30");
        CheckRules2 x = withThirty(checks);
        checks.due("one more", Checks.tell(x, RULE), -301);
        checks.due("one more again", Checks.tell(x, RULE), -301);
        checks.due("nothing is collected behind it", x.rule(), -1);
        checks.dueRun("only 30 are run", x, 0, 30);
        checks.due("no rule 30", x.except(30, 0, 1), -1);
    }

    private static void wrongBeyondThirty(Checks checks) {
        checks.sentence("rule: a WRONG one tells its place all the same");
        CheckRules2 x = withThirty(checks);
        checks.due("wrong at its first sign", Checks.tell(x, "x"), -1);
        checks.due("wrong at its end", Checks.tell(x, "hard tag 1 "), -1 - 11);
    }

    private static void levels(Checks checks) {
        checks.sentence("LEVEL is hard or warn");
        checks.dueRight("hard sum 1 = 1");
        checks.dueRight("warn sum 1 = 1");
        checks.dueWrong("soft sum 1 = 1", 0);
        checks.dueWrong("sum 1 = 1", 0);
        checks.dueWrong("hard warn sum 1 = 1", 5);
        checks.dueWrong("warn hard sum 1 = 1", 5);
    }

    private static void oneWhen(Checks checks) {
        checks.sentence("LEVEL TESTS, or LEVEL TESTS when TESTS");
        checks.dueRight("hard sum 1 = 1 when sum 2 = 1");
        checks.dueRight("hard sum 1 = 1 and sum 2 = 1 when sum 2 = 1 or sum 3 = 1");
        checks.dueWrong("hard", 4);
        checks.dueWrong("hard ", 5);
        checks.dueWrong("hard when sum 1 = 1", 5);
        checks.dueWrong("hard sum 1 = 1 when", 19);
        checks.dueWrong("hard sum 1 = 1 when ", 20);
        checks.dueWrong("hard sum 1 = 1 when: m", 19);
        checks.dueWrong("hard sum 1 = 1 and when sum 2 = 1", 19);
        checks.dueWrong("hard sum 1 = 1 when and sum 2 = 1", 20);
        checks.dueWrong("hard sum 1 = 1 when sum 2 = 1 when sum 3 = 1", 30);
        checks.dueWrong("hard sum 1 = 1 when sum 2 = 1 or sum 3 = 1 when", 43);
    }

    private static void messageLength(Checks checks) {
        checks.sentence("a MESSAGE (1 to 40 signs); too long at its 41st sign");
        String rule = RULE + ": ";
        String forty = TEN + TEN + TEN + TEN;
        checks.dueWrong(RULE + ":", 16);
        checks.dueWrong(rule, 17);
        checks.dueRight(rule + "1");
        checks.dueRight(rule + forty.substring(1));
        checks.dueRight(rule + forty);
        checks.dueWrong(rule + forty + "1", 57);
        checks.dueWrong(rule + forty + "12", 57);
        checks.dueWrong(rule + forty + TEN + TEN, 57);
        checks.dueWrong(rule + forty + " ", 57);
        checks.dueWrong(rule + forty + "1\n", 57);
        checks.dueWrong(rule + forty.substring(1) + "\n", 56);
    }

    private static void messageSigns(Checks checks) {
        checks.sentence("a MESSAGE: signs from 32 to 126");
        for (int sign = 0; sign < 256; sign++) {
            String text = RULE + ": " + (char) sign;
            if (sign >= 32 && sign <= 126) {
                checks.dueRight(text);
                checks.dueRight(text + (char) sign);
            } else {
                checks.dueWrong(text, 17);
                checks.dueWrong(RULE + ": a" + (char) sign, 18);
            }
        }
    }

    /** Of 250 signs the shortest TESTS leave room for 19, so no text reaches the limit of 20. */
    private static void testsInARule(Checks checks) {
        checks.sentence("TESTS: 20 in a rule at most");
        StringBuilder row = new StringBuilder("hard sum 1 = 1");
        for (int tests = 2; tests <= 19; tests++) {
            row.append(" or sum 1 = 1");
            checks.dueRight(row.toString());
        }
        checks.dueRight(row.toString().replaceFirst(" or sum", " when sum"));
        CheckRules2 x = Checks.with(row.toString().replace("= 1 or", "= 2 or"));
        x.field(0, 1, 1);
        checks.dueRun("the 19th is looked at", x, 0, 0);
        x.field(0, 1, 2);
        checks.dueRun("none of the 19 holds", x, 0, 1);
    }

    private static void oneNot(Checks checks) {
        checks.sentence("a TEST is one of these, or not and one of these");
        checks.dueRight("hard not sum 1 = 1 or not sum 1 = 2 when not sum 1 = 3");
        checks.dueWrong("hard not not sum 1 = 1", 9);
        checks.dueWrong("hard not and sum 1 = 1", 9);
        checks.dueWrong("hard not", 8);
        checks.dueWrong("hard not ", 9);
        checks.dueWrong("hard sum not 1 = 1", 9);
        checks.dueWrong("not hard sum 1 = 1", 0);
    }

    private static void smallLetters(Checks checks) {
        checks.sentence("words are small letters");
        for (String text : WHOLE) {
            for (int at = 0; at < text.length(); at++) {
                char sign = text.charAt(at);
                if (sign >= 'a' && sign <= 'z') {
                    String before = text.substring(0, at);
                    String behind = text.substring(at + 1);
                    int first = text.lastIndexOf(' ', at) + 1;
                    checks.dueWrong(before + Character.toUpperCase(sign) + behind, first);
                    checks.dueWrong(before + (char) (sign + 128) + behind, first);
                }
            }
        }
        checks.dueWrong("hard` tag 1 must", 4);
        checks.dueWrong("hard{ tag 1 must", 4);
    }

    private static void otherWords(Checks checks) {
        checks.sentence("What does not fit is WRONG at its first sign: a word");
        for (String text : WHOLE) {
            for (int at = 0; at < text.length(); at++) {
                int first = text.lastIndexOf(' ', at) + 1;
                boolean inWord = text.substring(first).matches("[a-z][a-z].*") && text.charAt(at) != ' ';
                if (inWord) {
                    checks.dueWrong(text.substring(0, at) + "q" + text.substring(at + 1), first);
                    checks.dueWrong(text.substring(0, at) + "q", first);
                }
            }
        }
    }

    private static void oneSpace(Checks checks) {
        checks.sentence("between all is one space");
        for (String text : WHOLE) {
            checks.dueRight(text);
            checks.dueWrong(" " + text, 0);
            checks.dueWrong(text + " ", text.length() + 1);
            for (int at = text.indexOf(' '); at >= 0; at = text.indexOf(' ', at + 1)) {
                String before = text.substring(0, at);
                String behind = text.substring(at + 1);
                checks.dueWrong(before + "  " + behind, at + 1);
                checks.dueWrong(before + "\t" + behind, at);
                checks.dueWrong(before + behind, joinedWrongAt(before, behind));
            }
        }
    }

    /** Two words grow into a word too long, which counts from its first sign; else a space is missing there. */
    private static int joinedWrongAt(String before, String behind) {
        int first = before.lastIndexOf(' ') + 1;
        boolean word = before.substring(first).matches("[a-z][a-z]+");
        return word && behind.matches("[a-z].*") ? first : before.length();
    }

    private static void textsEnd(Checks checks) {
        checks.sentence("WRONG at the text's end, if more is wanted");
        for (String text : WHOLE) {
            for (int at = text.indexOf(' '); at >= 0; at = text.indexOf(' ', at + 1)) {
                String before = text.substring(0, at);
                checks.dueWrong(before + " ", at + 1);
                if (before.matches(".*(must|once|= -?\\d|like #)")) {
                    checks.dueRight(before);
                } else {
                    checks.dueWrong(before, at);
                }
            }
        }
    }

    private static void brokenOffWord(Checks checks) {
        checks.sentence("a word that the text's end breaks off counts from its first sign on");
        checks.dueWrong("har", 0);
        checks.dueWrong("w", 0);
        for (String text : WHOLE) {
            for (int end = 1; end < text.length(); end++) {
                boolean inside = text.substring(end - 1, end + 1).matches("[a-z][a-z]");
                if (inside) {
                    checks.dueWrong(text.substring(0, end), text.lastIndexOf(' ', end) + 1);
                }
            }
        }
    }

    private static void tooLongWord(Checks checks) {
        checks.sentence("a word of more than its signs may be counts from its first sign on");
        for (String text : WHOLE) {
            for (int end = 2; end <= text.length(); end++) {
                boolean wordEnds = text.substring(end - 2, end).matches("[a-z][a-z]")
                        && (end == text.length() || text.charAt(end) == ' ');
                if (wordEnds) {
                    int first = text.lastIndexOf(' ', end - 1) + 1;
                    checks.dueWrong(text.substring(0, end) + "s" + text.substring(end), first);
                    checks.dueWrong(text.substring(0, end) + "s", first);
                }
            }
        }
    }

    private static void digitsOfTags(Checks checks) {
        checks.sentence("N and M are tags in 1 to 3 digits; a number of more counts from its first sign on");
        String[][] places = {
            {"hard tag ", " must"}, {"hard sum ", " = 1"}, {"hard share ", " by 1 = 1"}, {"hard share 1 by ", " = 1"},
            {"hard tag 1 before ", ""}, {"hard tag 1 before ", ": m"}};
        for (String[] place : places) {
            int first = place[0].length();
            for (String right : new String[] {"0", "9", "00", "99", "000", "007", "999"}) {
                checks.dueRight(place[0] + right + place[1]);
            }
            for (String wrong : new String[] {"", "0000", "0001", "1000", "9999", "12345678901", "-1", "+1", "a", "#"}) {
                checks.dueWrong(place[0] + wrong + place[1], first);
            }
            checks.dueWrong(place[0] + "12a" + place[1], first + 2);
            checks.dueWrong(place[0] + "12/" + place[1], first + 2);
            checks.dueWrong(place[0] + "12;" + place[1], first + 2);
            checks.dueWrong(place[0] + "123a" + place[1], first + 3);
        }
    }

    private static void letterOfSub(Checks checks) {
        checks.sentence("C a letter a to z");
        for (int sign = 0; sign < 256; sign++) {
            String text = "hard tag 1 sub " + (char) sign + " must";
            if (sign >= 'a' && sign <= 'z') {
                checks.dueRight(text);
            } else {
                checks.dueWrong(text, 15);
            }
        }
    }

    /** The four places of a V, with what stands before it. */
    private static final String[] BEFORE_V = {
        "hard sum 1 = ", "hard tag 1 value < ", "hard share 1 by 2 > ", "hard tag 1 sub a in ", "hard tag 1 sub a in 5,"};

    private static void digitsOfValues(Checks checks) {
        checks.sentence("V an int, - and digits (1 to 10 of them)");
        for (String before : BEFORE_V) {
            int first = before.length();
            for (String right : new String[] {"0", "-0", "7", "-7", "0000000000", "-0000000007", "0000000007"}) {
                checks.dueRight(before + right);
                checks.dueRight(before + right + ": m");
            }
            for (String wrong : new String[] {"", "x", "+7", " 7", "00000000000", "-00000000007", "#", ".5"}) {
                checks.dueWrong(before + wrong, first);
            }
            checks.dueWrong(before + "7x", first + 1);
            checks.dueWrong(before + "7.", first + 1);
            checks.dueWrong(before + "7/", first + 1);
            checks.dueWrong(before + "7:", first + 2);
            checks.dueWrong(before + "7-", first + 1);
            checks.dueWrong(before + "-7-", first + 2);
        }
    }

    private static void valuesWithinAnInt(Checks checks) {
        checks.sentence("V: within an int");
        for (String before : BEFORE_V) {
            checks.dueRight(before + "2147483647");
            checks.dueRight(before + "-2147483647");
            checks.dueRight(before + "-2147483648");
            checks.dueWrong(before + "2147483648", before.length());
            checks.dueWrong(before + "-2147483649", before.length());
            checks.dueWrong(before + "4294967296", before.length());
            checks.dueWrong(before + "4294967297", before.length());
            checks.dueWrong(before + "9999999999", before.length());
            checks.dueWrong(before + "-9999999999", before.length());
            checks.dueWrong(before + "18446744073709551617", before.length());
        }
    }

    private static void minusWithoutDigits(Checks checks) {
        checks.sentence("a V of - without digits counts from its first sign on");
        for (String before : BEFORE_V) {
            for (String wrong : new String[] {"-", "--", "--7", "- 7", "-x", "-,7", "-: m", "- or sum 1 = 1"}) {
                checks.dueWrong(before + wrong, before.length());
            }
        }
    }

    private static void comparisons(Checks checks) {
        checks.sentence("O one of = < >");
        for (String before : new String[] {"hard sum 1 ", "hard tag 1 value ", "hard share 1 by 2 "}) {
            int first = before.length();
            for (int sign = 0; sign < 256; sign++) {
                String text = before + (char) sign + " 1";
                if (sign == '=' || sign == '<' || sign == '>') {
                    checks.dueRight(text);
                } else {
                    checks.dueWrong(text, first);
                }
            }
            for (String wrong : new String[] {"== 1", "<= 1", ">= 1", "<> 1", "=1", "=", "=="}) {
                checks.dueWrong(before + wrong, first + 1);
            }
            checks.dueWrong(before + "= ", first + 2);
            checks.dueWrong(before + "1", first);
            checks.dueWrong(before, first);
        }
    }

    private static void lengthOfLists(Checks checks) {
        checks.sentence("one of these, 1 to 8; a list that has a ninth value counts from its first sign on");
        String before = "hard tag 1 sub a in ";
        StringBuilder list = new StringBuilder("-10");
        checks.dueWrong(before, 20);
        for (int values = 1; values <= 8; values++) {
            checks.dueRight(before + list);
            checks.dueRight(before + list + ": m");
            checks.dueWrong(before + list + ",", 21 + list.length());
            list.append(",").append(values);
        }
        for (String rest : new String[] {"", ",10", ",", ": m", " and", "!", ",10,11,12,13,14,15,16,17", ",x"}) {
            checks.dueWrong(before + list + rest, 20);
        }
        checks.dueWrong(before + ",1", 20);
        checks.dueWrong(before + "1,,2", 22);
        checks.dueWrong(before + "1, 2", 22);
        checks.dueWrong(before + "1 ,2", 22);
        checks.dueWrong(before + "1;2", 21);
    }

    private static void lengthOfPatterns(Checks checks) {
        checks.sentence("P is 1 to 10 signs, digits or #; a P of more counts from its first sign on");
        String before = "hard tag 1 like ";
        StringBuilder hashes = new StringBuilder();
        checks.dueWrong(before, 16);
        for (int signs = 1; signs <= 10; signs++) {
            hashes.append('#');
            checks.dueRight(before + hashes);
            checks.dueRight(before + TEN.substring(0, signs) + ": m");
        }
        for (String more : new String[] {"#", "1", "##", "x", "# or sum 1 = 1", "#: m"}) {
            checks.dueWrong(before + hashes + more, more.equals("x") ? 26 : 16);
            checks.dueWrong(before + TEN + more, more.equals("x") ? 26 : 16);
        }
        for (int sign = 0; sign < 256; sign++) {
            if (sign == '#' || sign >= '0' && sign <= '9') {
                checks.dueRight(before + (char) sign);
            } else {
                checks.dueWrong(before + (char) sign, 16);
            }
        }
        checks.dueWrong(before + "-1", 16);
        checks.dueWrong(before + "1-", 17);
        checks.dueWrong(before + "1,2", 17);
    }

    private static void firstWrongPlace(Checks checks) {
        checks.sentence("What does not fit is WRONG at its first sign");
        checks.dueWrong("xxxx tag 1000 must", 0);
        checks.dueWrong("hard tag 1000 muss: ", 9);
        checks.dueWrong("hard tag 100 muss: ", 13);
        checks.dueWrong("hard sum 1 = 3000000000 or sum 1000 = 1", 13);
        checks.dueWrong("hard tag 1 must! and", 15);
        checks.dueWrong("hard tag 1 must; m", 15);
        checks.dueWrong("hard tag 1 must:m", 16);
        checks.dueWrong("hard tag 1 must : m", 16);
        checks.dueWrong("hard tag 1 must but tag 2 must", 16);
        checks.dueWrong("hard tag 1 must\0", 15);
        checks.dueWrong("\0", 0);
    }
}
