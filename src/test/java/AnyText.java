import java.util.Random;

/** Rules' texts by chance: right ones of few tags and values, and such ones with a sign or two changed. */
final class AnyText {
    private static final String SIGNS = "hardwntgsumbyoce0123456789-#,=<>: :  A!`{/\u007f\u00e9\u0000\n";
    private static final String[] ODD_NUMBERS = {
        "", "-", "00", "007", "1000", "2147483647", "2147483648", "-2147483648", "-2147483649", "0000000000",
        "00000000001", "-0", "--1", "9999999999", "-3000000000", "1-", "3,4", "1,2,3,4,5,6,7,8", "1,2,3,4,5,6,7,8,9",
        "1,2,3,4,5,6,7,8,", "1,2,3,4,5,6,7,8,x", "1,2,3,4,5,6,7,8,-", "1,2,3,4,5,6,7,8,99999999999", "1,,2"};

    private final Random random;

    AnyText(Random random) {
        this.random = random;
    }

    String next() {
        String text = rightText();
        int changes = random.nextInt(3) > 0 ? 0 : 1 + random.nextInt(2);
        for (int change = 0; change < changes; change++) {
            text = changed(text);
        }
        return text;
    }

    private String rightText() {
        String text = pick("hard", "warn") + " " + tests(3);
        if (random.nextInt(3) == 0) {
            text += " when " + tests(2);
        }
        return random.nextInt(3) == 0 ? text + ": " + message() : text;
    }

    private String tests(int most) {
        StringBuilder text = new StringBuilder(test());
        for (int more = random.nextInt(most); more > 0; more--) {
            text.append(pick(" and ", " or ")).append(test());
        }
        return text.toString();
    }

    private String test() {
        String not = random.nextInt(4) == 0 ? "not " : "";
        switch (random.nextInt(9)) {
            case 0:
                return not + "tag " + tag() + " must";
            case 1:
                return not + "tag " + tag() + " once";
            case 2:
                return not + "tag " + tag() + " sub " + pick("a", "b", "z") + " must";
            case 3:
                return not + "tag " + tag() + " sub " + pick("a", "b", "z") + " in " + list();
            case 4:
                return not + "tag " + tag() + " value " + pick("=", "<", ">") + " " + value();
            case 5:
                return not + "tag " + tag() + " like " + pick("#", "##", "1", "1#", "#0", "0", "2147483647", "-1");
            case 6:
                return not + "tag " + tag() + " before " + tag();
            case 7:
                return not + "sum " + tag() + " " + pick("=", "<", ">") + " " + value();
            default:
                return not + "share " + tag() + " by " + tag() + " " + pick("=", "<", ">") + " " + value();
        }
    }

    private String message() {
        StringBuilder text = new StringBuilder();
        for (int length = random.nextInt(12) == 0 ? 38 + random.nextInt(5) : random.nextInt(9); length > 0; length--) {
            text.append((char) (32 + random.nextInt(95)));
        }
        return text.toString();
    }

    private String tag() {
        return random.nextInt(30) == 0 ? oddNumber() : pick("1", "2", "3", "01", "003");
    }

    private String value() {
        return random.nextInt(20) == 0 ? oddNumber() : Integer.toString(random.nextInt(7) - 3);
    }

    private String list() {
        StringBuilder text = new StringBuilder(value());
        for (int more = random.nextInt(random.nextInt(6) == 0 ? 10 : 3); more > 0; more--) {
            text.append(',').append(value());
        }
        return text.toString();
    }

    private String oddNumber() {
        return ODD_NUMBERS[random.nextInt(ODD_NUMBERS.length)];
    }

    private String changed(String text) {
        int at = random.nextInt(text.length() + 1);
        int behind = Math.min(text.length(), at + 1);
        char other = SIGNS.charAt(random.nextInt(SIGNS.length()));
        switch (random.nextInt(4)) {
            case 0:
                return text.substring(0, at);
            case 1:
                return text.substring(0, at) + text.substring(behind);
            case 2:
                return text.substring(0, at) + other + text.substring(at);
            default:
                return text.substring(0, at) + other + text.substring(behind);
        }
    }

    private String pick(String... those) {
        return those[random.nextInt(those.length)];
    }
}
