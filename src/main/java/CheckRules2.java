import java.util.ArrayList;
import java.util.Arrays;

/** Rules for records, told as texts; README.md tells how it is used. */
public final class CheckRules2 {
    public static final int NONE = -1;

    private static final int RECORDS = 20;
    private static final int MAX_RULES = 30;
    private static final int MAX_SIGNS = 250;
    /** Above every place in a text, so that the answer differs from that of a wrong one. */
    private static final int PLACE_OF_TOO_MANY = 300;

    private final int[] signs;
    private int signCount;
    private final ArrayList<Rule> rules;
    private final Fields fields;
    /** The last run of an exception, at rule * RECORDS + record; 0 is before the first run. */
    private final long[] exceptUntil;
    private long runsBegun;
    private int latestRecord;
    private final int[] brokenRules;
    private int brokenCount;

    public CheckRules2() {
        signs = new int[MAX_SIGNS];
        signCount = 0;
        rules = new ArrayList<Rule>();
        fields = new Fields();
        exceptUntil = new long[MAX_RULES * RECORDS];
        runsBegun = 0;
        latestRecord = 0;
        brokenRules = new int[MAX_RULES];
        brokenCount = 0;
    }

    public void sign(int c) {
        if (signCount < MAX_SIGNS) {
            signs[signCount] = c & 255;
            signCount++;
        }
    }

    public int rule() {
        RuleReader reader = new RuleReader(signs, signCount);
        signCount = 0;
        Rule told;
        try {
            told = reader.readRule();
        } catch (IllegalArgumentException wrong) {
            return -1 - reader.wrongPlace;
        }
        if (rules.size() >= MAX_RULES) {
            return -1 - PLACE_OF_TOO_MANY;
        }
        rules.add(told);
        return rules.size() - 1;
    }

    public int field(int record, int tag, int value) {
        return isRecord(record) ? fields.add(record, tag, value) : 0;
    }

    public int subfield(int field, int code, int v) {
        return fields.addSub(field, code, v);
    }

    public int run(int record) throws ArithmeticException {
        if (!isRecord(record)) {
            return NONE;
        }
        runsBegun++;
        latestRecord = record;
        brokenCount = 0;
        for (int number = 0; number < rules.size(); number++) {
            if (!isExcepted(number, record)) {
                Rule rule = rules.get(number);
                Outcome outcome = rule.judge(fields, record);
                if (outcome == Outcome.FAILED && rule.letThrough) {
                    throw new ArithmeticException("a rule fails");
                }
                keep(number, rule, outcome);
            }
        }
        return brokenCount;
    }

    public int broken(int i, int what) {
        int number = brokenNumber(i);
        if (!isRule(number)) {
            return NONE;
        }
        Rule rule = rules.get(number);
        switch (what) {
            case 0:
                return number;
            case 1:
                return rule.hard ? 1 : 0;
            case 2:
                return fields.firstOf(latestRecord, rule.demand.firstTag());
            default:
                return NONE;
        }
    }

    public int warning(int record, int i) {
        if (!isRecord(record) || i < 0) {
            return NONE;
        }
        int before = 0;
        for (int number = 0; number < rules.size(); number++) {
            Rule rule = rules.get(number);
            if (!rule.hard && rule.judge(fields, record) == Outcome.BROKEN) {
                if (before == i) {
                    return number;
                }
                before++;
            }
        }
        return NONE;
    }

    public boolean throwsUp(int rule, boolean on) {
        if (!isRule(rule)) {
            return false;
        }
        Rule told = rules.get(rule);
        boolean before = told.letThrough;
        told.letThrough = on;
        return before;
    }

    public int except(int rule, int record, long until) {
        if (!isRule(rule) || !isRecord(record)) {
            return NONE;
        }
        exceptUntil[rule * RECORDS + record] = until;
        // Compared first: the difference of a very low until would wrap around.
        if (until <= runsBegun) {
            return 0;
        }
        return (int) Math.min(until - runsBegun, (long) Integer.MAX_VALUE);
    }

    public int never(int i) {
        if (i < 0) {
            return NONE;
        }
        int before = 0;
        for (int number = 0; number < rules.size(); number++) {
            if (!rules.get(number).met) {
                if (before == i) {
                    return number;
                }
                before++;
            }
        }
        return NONE;
    }

    public int message(int i, int c) {
        int number = brokenNumber(i);
        if (!isRule(number)) {
            return NONE;
        }
        int[] text = rules.get(number).text;
        return c >= 0 && c < text.length ? text[c] : NONE;
    }

    private boolean isRecord(int record) {
        return record >= 0 && record < RECORDS;
    }

    private boolean isRule(int number) {
        return number >= 0 && number < rules.size();
    }

    private boolean isExcepted(int number, int record) {
        return runsBegun <= exceptUntil[number * RECORDS + record];
    }

    private void keep(int number, Rule rule, Outcome outcome) {
        if (outcome == Outcome.BROKEN || outcome == Outcome.KEPT) {
            rule.met = true;
        }
        if (outcome == Outcome.BROKEN && brokenCount < brokenRules.length) {
            brokenRules[brokenCount] = number;
            brokenCount++;
        }
    }

    private int brokenNumber(int i) {
        return i >= 0 && i < brokenCount ? brokenRules[i] : NONE;
    }

    /** What a record is to a rule. */
    private enum Outcome { FAILED, UNMET, KEPT, BROKEN }

    /** What a TEST says. */
    private enum Kind { MUST, ONCE, SUB_MUST, SUB_IN, VALUE, LIKE, BEFORE, SUM, SHARE }

    /** The fields of all records with their subfields; a field's index is its number less 1. */
    private static final class Fields {
        private static final int MAX_FIELDS = 200;
        private static final int MAX_SUBS = 400;
        private static final int MAX_TAG = 999;

        private final int[] records;
        private final int[] tags;
        private final int[] values;
        private final int[] subCounts;
        private int count;
        private final int[] subOwners;
        private final int[] subCodes;
        private final int[] subValues;
        private int subCount;

        Fields() {
            records = new int[MAX_FIELDS];
            tags = new int[MAX_FIELDS];
            values = new int[MAX_FIELDS];
            subCounts = new int[MAX_FIELDS];
            count = 0;
            subOwners = new int[MAX_SUBS];
            subCodes = new int[MAX_SUBS];
            subValues = new int[MAX_SUBS];
            subCount = 0;
        }

        /** The new field's number, 0 if it is refused. */
        int add(int record, int tag, int value) {
            if (tag < 0 || tag > MAX_TAG || count >= MAX_FIELDS) {
                return 0;
            }
            records[count] = record;
            tags[count] = tag;
            values[count] = value;
            count++;
            return count;
        }

        /** How many subfields the field has then, 0 if the new one is refused. */
        int addSub(int number, int code, int value) {
            if (number < 1 || number > count || code < 'a' || code > 'z' || subCount >= MAX_SUBS) {
                return 0;
            }
            int owner = number - 1;
            subOwners[subCount] = owner;
            subCodes[subCount] = code;
            subValues[subCount] = value;
            subCount++;
            subCounts[owner]++;
            return subCounts[owner];
        }

        boolean isOf(int index, int record, int tag) {
            return index >= 0 && index < count && records[index] == record && tags[index] == tag;
        }

        /** The number of the first field, 0 without one. */
        int firstOf(int record, int tag) {
            for (int index = 0; index < count; index++) {
                if (isOf(index, record, tag)) {
                    return index + 1;
                }
            }
            return 0;
        }

        int countOf(int record, int tag) {
            int found = 0;
            for (int index = 0; index < count; index++) {
                if (isOf(index, record, tag)) {
                    found++;
                }
            }
            return found;
        }

        long sumOf(int record, int tag) {
            long sum = 0;
            for (int index = 0; index < count; index++) {
                if (isOf(index, record, tag)) {
                    sum += values[index];
                }
            }
            return sum;
        }

        boolean noneBehind(int record, int tag, int otherTag) {
            boolean otherSeen = false;
            for (int index = 0; index < count; index++) {
                if (otherSeen && isOf(index, record, tag)) {
                    return false;
                }
                // Set behind the look, for a tag that is its own other: a field is not behind itself.
                otherSeen = otherSeen || isOf(index, record, otherTag);
            }
            return true;
        }

        boolean hasSub(int owner, int code) {
            for (int sub = 0; sub < subCount; sub++) {
                if (isSubOf(sub, owner, code)) {
                    return true;
                }
            }
            return false;
        }

        boolean isSubOf(int sub, int owner, int code) {
            return sub >= 0 && sub < subCount && subOwners[sub] == owner && subCodes[sub] == code;
        }
    }

    /** One TEST of a rule; which of the operands count depends on the kind. */
    private static final class Test {
        private final boolean byOr;
        private boolean negated;
        private Kind kind;
        private int tag;
        private int otherTag;
        private int code;
        private int comparison;
        private int bound;
        private int[] choices;
        private int[] pattern;

        Test(boolean joinedByOr) {
            byOr = joinedByOr;
            negated = false;
            kind = Kind.MUST;
            tag = 0;
            otherTag = 0;
            code = 0;
            comparison = '=';
            bound = 0;
            choices = new int[0];
            pattern = new int[0];
        }

        boolean fails(Fields fields, int record) {
            return kind == Kind.SHARE && fields.sumOf(record, otherTag) == 0;
        }

        boolean holds(Fields fields, int record) {
            boolean said;
            switch (kind) {
                case MUST:
                    said = fields.countOf(record, tag) > 0;
                    break;
                case ONCE:
                    said = fields.countOf(record, tag) < 2;
                    break;
                case BEFORE:
                    said = fields.noneBehind(record, tag, otherTag);
                    break;
                case SUM:
                    said = compares(fields.sumOf(record, tag));
                    break;
                case SHARE:
                    said = shareCompares(fields, record);
                    break;
                default:
                    said = everyFieldFits(fields, record);
                    break;
            }
            return said != negated;
        }

        private boolean shareCompares(Fields fields, int record) {
            long divisor = fields.sumOf(record, otherTag);
            return divisor != 0 && compares(fields.sumOf(record, tag) / divisor);
        }

        private boolean everyFieldFits(Fields fields, int record) {
            for (int index = 0; index < fields.count; index++) {
                if (fields.isOf(index, record, tag) && !fits(fields, index)) {
                    return false;
                }
            }
            return true;
        }

        private boolean fits(Fields fields, int index) {
            switch (kind) {
                case SUB_MUST:
                    return fields.hasSub(index, code);
                case SUB_IN:
                    return everySubIsChosen(fields, index);
                case VALUE:
                    return compares(fields.values[index]);
                case LIKE:
                    return isLike(fields.values[index]);
                default:
                    return false;
            }
        }

        private boolean everySubIsChosen(Fields fields, int owner) {
            for (int sub = 0; sub < fields.subCount; sub++) {
                if (fields.isSubOf(sub, owner, code) && !isChoice(fields.subValues[sub])) {
                    return false;
                }
            }
            return true;
        }

        private boolean isChoice(int value) {
            for (int choice : choices) {
                if (choice == value) {
                    return true;
                }
            }
            return false;
        }

        private boolean compares(long value) {
            switch (comparison) {
                case '<':
                    return value < bound;
                case '>':
                    return value > bound;
                default:
                    return value == bound;
            }
        }

        private boolean isLike(int value) {
            if (value < 0 || digitCount(value) != pattern.length) {
                return false;
            }
            int rest = value;
            for (int at = pattern.length - 1; at >= 0; at--) {
                if (pattern[at] != '#' && pattern[at] - '0' != rest % 10) {
                    return false;
                }
                rest /= 10;
            }
            return true;
        }

        private static int digitCount(int value) {
            int digits = 1;
            for (int rest = value / 10; rest > 0; rest /= 10) {
                digits++;
            }
            return digits;
        }
    }

    /** TESTS in a row, joined from the left to the right; an empty row holds. */
    private static final class Tests {
        private final ArrayList<Test> row;

        Tests() {
            row = new ArrayList<Test>();
        }

        void add(Test test) {
            row.add(test);
        }

        int firstTag() {
            return row.isEmpty() ? NONE : row.get(0).tag;
        }

        /** All of them are looked at, so that one which fails does so wherever it stands. */
        boolean fail(Fields fields, int record) {
            for (int at = 0; at < row.size(); at++) {
                if (row.get(at).fails(fields, record)) {
                    return true;
                }
            }
            return false;
        }

        boolean hold(Fields fields, int record) {
            boolean all = true;
            for (int at = 0; at < row.size(); at++) {
                Test test = row.get(at);
                boolean one = test.holds(fields, record);
                all = test.byOr ? all || one : all && one;
            }
            return all;
        }
    }

    private static final class Rule {
        private final boolean hard;
        private final Tests demand;
        private final Tests condition;
        private int[] text;
        private boolean letThrough;
        private boolean met;

        Rule(boolean isHard) {
            hard = isHard;
            demand = new Tests();
            condition = new Tests();
            text = new int[0];
            letThrough = false;
            met = false;
        }

        Outcome judge(Fields fields, int record) {
            if (condition.fail(fields, record)) {
                return Outcome.FAILED;
            }
            if (!condition.hold(fields, record)) {
                return Outcome.UNMET;
            }
            if (demand.fail(fields, record)) {
                return Outcome.FAILED;
            }
            return demand.hold(fields, record) ? Outcome.KEPT : Outcome.BROKEN;
        }
    }

    /** Reads one rule's text; where that is wrong, it throws and wrongPlace tells the place. */
    private static final class RuleReader {
        private static final int MAX_TESTS = 20;
        private static final int MAX_TAG_DIGITS = 3;
        private static final int MAX_INT_DIGITS = 10;
        private static final int MAX_PATTERN = 10;
        private static final int MAX_CHOICES = 8;
        private static final int MAX_MESSAGE = 40;
        private static final int TEXT_END = -1;

        private final int[] signs;
        private final int length;
        private int place;
        private int wrongPlace;

        RuleReader(int[] collected, int count) {
            signs = collected;
            length = Math.min(count, collected.length);
            place = 0;
            wrongPlace = 0;
        }

        Rule readRule() {
            Rule rule = new Rule(readEither("warn", "hard"));
            need(' ');
            boolean byOr = false;
            boolean behindWhen = false;
            for (int told = 0; told < MAX_TESTS; told++) {
                Tests row = behindWhen ? rule.condition : rule.demand;
                row.add(readTest(byOr));
                if (signAhead() != ' ') {
                    rule.text = readMessage();
                    return rule;
                }
                place++;
                if (!behindWhen && takeWord("when")) {
                    behindWhen = true;
                    byOr = false;
                } else {
                    byOr = readEither("and", "or");
                }
                need(' ');
            }
            refuse(place);
            return rule;
        }

        private Test readTest(boolean byOr) {
            Test test = new Test(byOr);
            if (takeWord("not")) {
                test.negated = true;
                need(' ');
            }
            if (takeWord("tag")) {
                test.tag = readSpacedTag();
                need(' ');
                test.kind = readTagKind(test);
            } else if (takeWord("sum")) {
                test.tag = readSpacedTag();
                test.kind = Kind.SUM;
            } else if (takeWord("share")) {
                test.tag = readSpacedTag();
                need(' ');
                needWord("by");
                test.otherTag = readSpacedTag();
                test.kind = Kind.SHARE;
            } else {
                refuse(place);
            }
            readOperands(test);
            return test;
        }

        private Kind readTagKind(Test test) {
            if (takeWord("must")) {
                return Kind.MUST;
            }
            if (takeWord("once")) {
                return Kind.ONCE;
            }
            if (takeWord("value")) {
                return Kind.VALUE;
            }
            if (takeWord("like")) {
                return Kind.LIKE;
            }
            if (takeWord("before")) {
                return Kind.BEFORE;
            }
            needWord("sub");
            need(' ');
            test.code = readLetter();
            need(' ');
            return readEither("must", "in") ? Kind.SUB_IN : Kind.SUB_MUST;
        }

        private void readOperands(Test test) {
            switch (test.kind) {
                case SUB_IN:
                    need(' ');
                    test.choices = readChoices();
                    break;
                case LIKE:
                    need(' ');
                    test.pattern = readPattern();
                    break;
                case BEFORE:
                    test.otherTag = readSpacedTag();
                    break;
                case VALUE:
                case SUM:
                case SHARE:
                    need(' ');
                    test.comparison = readComparison();
                    need(' ');
                    test.bound = readInt();
                    break;
                default:
                    break;
            }
        }

        private int readSpacedTag() {
            need(' ');
            int digits = runAhead('0', '9', '9');
            if (digits < 1 || digits > MAX_TAG_DIGITS) {
                refuse(place);
            }
            return (int) readDigits(digits);
        }

        private int readLetter() {
            int letter = signAhead();
            if (letter < 'a' || letter > 'z') {
                refuse(place);
            }
            place++;
            return letter;
        }

        private int readComparison() {
            int comparison = signAhead();
            if (comparison != '=' && comparison != '<' && comparison != '>') {
                refuse(place);
            }
            place++;
            return comparison;
        }

        private int[] readPattern() {
            int first = place;
            int size = runAhead('0', '9', '#');
            if (size < 1 || size > MAX_PATTERN) {
                refuse(first);
            }
            place = first + size;
            return Arrays.copyOfRange(signs, first, place);
        }

        private int[] readChoices() {
            int first = place;
            int[] read = new int[MAX_CHOICES];
            for (int at = 0; at < MAX_CHOICES; at++) {
                read[at] = readInt();
                if (signAhead() != ',') {
                    return Arrays.copyOf(read, at + 1);
                }
                place++;
            }
            // Only a ninth VALUE makes the whole list wrong: what is none is wrong at its own place.
            readInt();
            refuse(first);
            return read;
        }

        private int readInt() {
            int first = place;
            boolean below = signAhead() == '-';
            if (below) {
                place++;
            }
            int digits = runAhead('0', '9', '9');
            if (digits < 1 || digits > MAX_INT_DIGITS) {
                refuse(first);
            }
            long size = readDigits(digits);
            long value = below ? -size : size;
            if (value < Integer.MIN_VALUE || value > Integer.MAX_VALUE) {
                refuse(first);
            }
            return (int) value;
        }

        private long readDigits(int digits) {
            long value = 0;
            for (int read = 0; read < digits && place < length; read++) {
                value = value * 10 + (signs[place] - '0');
                place++;
            }
            return value;
        }

        private int[] readMessage() {
            if (signAhead() == TEXT_END) {
                return new int[0];
            }
            need(':');
            need(' ');
            int first = place;
            if (first >= length) {
                refuse(first);
            }
            for (int at = first; at < length; at++) {
                if (at - first >= MAX_MESSAGE || signs[at] < 32 || signs[at] > 126) {
                    refuse(at);
                }
            }
            return Arrays.copyOfRange(signs, first, length);
        }

        /** Whether it is the second of two words, one of which must stand here. */
        private boolean readEither(String first, String second) {
            if (takeWord(first)) {
                return false;
            }
            needWord(second);
            return true;
        }

        private void needWord(String word) {
            if (!takeWord(word)) {
                refuse(place);
            }
        }

        /** A word is all the small letters that stand together: mustx is not must. */
        private boolean takeWord(String word) {
            if (runAhead('a', 'z', 'z') != word.length()) {
                return false;
            }
            for (int at = 0; at < word.length(); at++) {
                if (signs[place + at] != word.charAt(at)) {
                    return false;
                }
            }
            place += word.length();
            return true;
        }

        private void need(int sign) {
            if (signAhead() != sign) {
                refuse(place);
            }
            place++;
        }

        private int signAhead() {
            return place < length ? signs[place] : TEXT_END;
        }

        /** How many signs from low to high, or the other one, stand together from here on. */
        private int runAhead(int low, int high, int other) {
            int at = place;
            while (at < length && (signs[at] >= low && signs[at] <= high || signs[at] == other)) {
                at++;
            }
            return at - place;
        }

        private void refuse(int at) {
            wrongPlace = at;
            throw new IllegalArgumentException("the text is wrong");
        }
    }
}
