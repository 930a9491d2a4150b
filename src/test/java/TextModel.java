import java.util.regex.Matcher;
import java.util.regex.Pattern;

/**
 * A rule's text by the document's Terms, as one regular expression: a text is right if that matches,
 * and does not fit from the sign on behind which no more signs could make it match.
 */
final class TextModel {
    static final int RIGHT = -1;

    private static final String TAG = "[0-9]{1,3}";
    private static final String TEN_DIGITS = "[01][0-9]{9}|20[0-9]{8}|21[0-3][0-9]{7}|214[0-6][0-9]{6}"
            + "|2147[0-3][0-9]{5}|21474[0-7][0-9]{4}|214748[0-2][0-9]{3}|2147483[0-5][0-9]{2}|21474836[0-3][0-9]";
    private static final String V = "(?:-?[0-9]{1,9}|-?(?:" + TEN_DIGITS + ")|214748364[0-7]|-214748364[0-8])";
    private static final String COMPARED = "[=<>] " + V;
    private static final String ONE = "(?:tag " + TAG + " (?:must|once|sub [a-z] must|sub [a-z] in " + V + "(?:," + V
            + "){0,7}|value " + COMPARED + "|like [0-9#]{1,10}|before " + TAG + ")|sum " + TAG + " " + COMPARED
            + "|share " + TAG + " by " + TAG + " " + COMPARED + ")";
    private static final String TEST = "(?:not )?" + ONE;
    private static final String TESTS = TEST + "(?: (?:and|or) " + TEST + ")*";
    private static final Pattern RULE =
            Pattern.compile("(?:hard|warn) " + TESTS + "(?: when " + TESTS + ")?(?:: [ -~]{1,40})?");

    private TextModel() {
    }

    /** The place at which a text is wrong, or RIGHT. */
    static int wrongPlace(String text) {
        if (isRight(text)) {
            return RIGHT;
        }
        int fitting = text.length();
        while (!isBegun(text.substring(0, fitting))) {
            fitting--;
        }
        String begun = text.substring(0, fitting);
        return fitting == text.length() ? placeOfTooShort(begun) : placeOfUnfit(begun, text.substring(fitting));
    }

    private static boolean isRight(String text) {
        return RULE.matcher(text).matches();
    }

    /** Whether a right text begins so. */
    private static boolean isBegun(String text) {
        Matcher matcher = RULE.matcher(text);
        return matcher.matches() || matcher.hitEnd();
    }

    private static int placeOfTooShort(String begun) {
        if (begun.endsWith("-")) {
            return begun.length() - 1;
        }
        return isWholeWord(begun) ? begun.length() : startOf("[a-z]*", begun);
    }

    private static int placeOfUnfit(String begun, String rest) {
        char unfit = rest.charAt(0);
        if (begun.contains(":") || begun.matches(".* sub [a-z]")) {
            return begun.length();
        }
        if (begun.matches(".*[a-z]")) {
            boolean isTooLong = unfit >= 'a' && unfit <= 'z';
            return isWholeWord(begun) && !isTooLong ? begun.length() : startOf("[a-z]*", begun);
        }
        if (begun.endsWith("-")) {
            return begun.length() - 1;
        }
        if (begun.matches(".* like [0-9#]+") && (unfit + "").matches("[0-9#]")) {
            return startOf("[0-9#]*", begun);
        }
        if (begun.matches(".*[0-9]") && (unfit + "").matches("[0-9]")) {
            return startOf("-?[0-9]*", begun);
        }
        if (begun.matches(".* in [-0-9,]*[0-9]") && unfit == ',') {
            // A regular expression would be content with the first digits of a ninth value that is too long.
            boolean hasNinth = rest.matches("(?s)," + V + "(?![0-9]).*");
            return hasNinth ? startOf("[-0-9,]*", begun) : begun.length() + 1;
        }
        return begun.length();
    }

    /** A text that does not end in a letter counts too: there is no word to be broken off. */
    private static boolean isWholeWord(String begun) {
        return !begun.matches(".*[a-z]") || isRight(begun) || isBegun(begun + " ");
    }

    /** Where the longest end of the text begins that is of this form. */
    private static int startOf(String form, String text) {
        int start = 0;
        while (!text.substring(start).matches(form)) {
            start++;
        }
        return start;
    }
}
