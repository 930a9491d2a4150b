import java.math.BigInteger;
import java.util.ArrayList;
import java.util.HashMap;
import java.util.List;
import java.util.Map;
import java.util.TreeSet;
import java.util.function.Predicate;

/** The document once more, in plain Java with the whole library and without a care for room or time. */
final class Model {
    private record Sub(char code, int value) {
    }

    private record Field(int number, int record, int tag, int value, List<Sub> subs) {
    }

    private record Spared(int rule, int record) {
    }

    /** A TEST fails. */
    private static final class Fails extends RuntimeException {
        private static final long serialVersionUID = 1;
    }

    private final StringBuilder collected = new StringBuilder();
    private final List<String> rules = new ArrayList<>();
    private final List<Field> fields = new ArrayList<>();
    private final Map<Spared, BigInteger> untils = new HashMap<>();
    private final TreeSet<Integer> throwing = new TreeSet<>();
    private final TreeSet<Integer> met = new TreeSet<>();
    private int runs = 0;
    private int latestRecord = -1;
    private List<Integer> latestBroken = new ArrayList<>();

    void sign(int c) {
        collected.append((char) Math.floorMod(c, 256));
    }

    int rule() {
        String text = collected.substring(0, Math.min(250, collected.length()));
        collected.setLength(0);
        int wrong = TextModel.wrongPlace(text);
        if (wrong != TextModel.RIGHT) {
            return -1 - wrong;
        }
        if (rules.size() == 30) {
            return -1 - 300;
        }
        rules.add(text);
        return rules.size() - 1;
    }

    int field(int record, int tag, int value) {
        if (isNoRecord(record) || tag < 0 || tag > 999 || fields.size() == 200) {
            return 0;
        }
        fields.add(new Field(fields.size() + 1, record, tag, value, new ArrayList<>()));
        return fields.size();
    }

    int subfield(int field, int code, int v) {
        int all = fields.stream().mapToInt(one -> one.subs.size()).sum();
        if (field < 1 || field > fields.size() || code < 'a' || code > 'z' || all == 400) {
            return 0;
        }
        List<Sub> subs = fields.get(field - 1).subs;
        subs.add(new Sub((char) code, v));
        return subs.size();
    }

    int run(int record) {
        if (isNoRecord(record)) {
            return -1;
        }
        runs++;
        latestRecord = record;
        latestBroken = new ArrayList<>();
        for (int rule = 0; rule < rules.size(); rule++) {
            BigInteger until = untils.getOrDefault(new Spared(rule, record), BigInteger.ZERO);
            if (BigInteger.valueOf(runs).compareTo(until) > 0) {
                look(rule, record);
            }
        }
        return latestBroken.size();
    }

    private void look(int rule, int record) {
        try {
            boolean isMet = isMet(rule, record);
            boolean isBroken = isMet && !demandHolds(rule, record);
            if (isMet) {
                met.add(rule);
            }
            if (isBroken) {
                latestBroken.add(rule);
            }
        } catch (Fails e) {
            if (throwing.contains(rule)) {
                throw new ArithmeticException("a rule fails");
            }
        }
    }

    int broken(int i, int what) {
        if (i < 0 || i >= latestBroken.size() || what < 0 || what > 2) {
            return -1;
        }
        int rule = latestBroken.get(i);
        if (what == 0) {
            return rule;
        }
        if (what == 1) {
            return rules.get(rule).startsWith("hard") ? 1 : 0;
        }
        String firstDigits = rules.get(rule).replaceFirst("^[^0-9]*", "").replaceFirst("[^0-9].*$", "");
        List<Field> those = of(latestRecord, firstDigits);
        return those.isEmpty() ? 0 : those.get(0).number;
    }

    int warning(int record, int i) {
        List<Integer> found = new ArrayList<>();
        for (int rule = 0; rule < rules.size(); rule++) {
            try {
                boolean isWarning = rules.get(rule).startsWith("warn");
                if (isWarning && isMet(rule, record) && !demandHolds(rule, record)) {
                    found.add(rule);
                }
            } catch (Fails e) {
                continue;
            }
        }
        return isNoRecord(record) || i < 0 || i >= found.size() ? -1 : found.get(i);
    }

    boolean throwsUp(int rule, boolean on) {
        if (rule < 0 || rule >= rules.size()) {
            return false;
        }
        return on ? !throwing.add(rule) : throwing.remove(rule);
    }

    int except(int rule, int record, long until) {
        if (rule < 0 || rule >= rules.size() || isNoRecord(record)) {
            return -1;
        }
        untils.put(new Spared(rule, record), BigInteger.valueOf(until));
        BigInteger still = BigInteger.valueOf(until).subtract(BigInteger.valueOf(runs));
        return still.max(BigInteger.ZERO).min(BigInteger.valueOf(Integer.MAX_VALUE)).intValueExact();
    }

    int never(int i) {
        List<Integer> found = new ArrayList<>();
        for (int rule = 0; rule < rules.size(); rule++) {
            if (!met.contains(rule)) {
                found.add(rule);
            }
        }
        return i < 0 || i >= found.size() ? -1 : found.get(i);
    }

    int message(int i, int c) {
        if (i < 0 || i >= latestBroken.size()) {
            return -1;
        }
        String[] parts = rules.get(latestBroken.get(i)).split(": ", 2);
        return parts.length < 2 || c < 0 || c >= parts[1].length() ? -1 : parts[1].charAt(c);
    }

    private static boolean isNoRecord(int record) {
        return record < 0 || record > 19;
    }

    private String[] parts(int rule) {
        return rules.get(rule).split(":", 2)[0].substring("hard ".length()).split(" when ");
    }

    private boolean isMet(int rule, int record) {
        String[] parts = parts(rule);
        return parts.length < 2 || hold(parts[1], record);
    }

    private boolean demandHolds(int rule, int record) {
        return hold(parts(rule)[0], record);
    }

    /** From the right end on: what stands before the last and or or is one value for it. */
    private boolean hold(String tests, int record) {
        int and = tests.lastIndexOf(" and ");
        int or = tests.lastIndexOf(" or ");
        if (and > or) {
            return hold(tests.substring(0, and), record) & holds(tests.substring(and + 5), record);
        }
        if (or > and) {
            return hold(tests.substring(0, or), record) | holds(tests.substring(or + 4), record);
        }
        return holds(tests, record);
    }

    private boolean holds(String test, int record) {
        if (test.startsWith("not ")) {
            return !holds(test.substring(4), record);
        }
        String[] words = test.split(" ");
        if (words[0].equals("sum")) {
            return compare(sum(record, words[1]), words[2], words[3]);
        }
        if (words[0].equals("share")) {
            BigInteger divisor = sum(record, words[3]);
            if (divisor.signum() == 0) {
                throw new Fails();
            }
            return compare(sum(record, words[1]).divide(divisor), words[4], words[5]);
        }
        return tagHolds(words, record, of(record, words[1]));
    }

    private boolean tagHolds(String[] words, int record, List<Field> those) {
        switch (words[2]) {
            case "must":
                return !those.isEmpty();
            case "once":
                return those.size() <= 1;
            case "value":
                return each(those, one -> compare(BigInteger.valueOf(one.value), words[3], words[4]));
            case "like":
                return each(those, one -> Integer.toString(one.value).matches(words[3].replace("#", "[0-9]")));
            case "before":
                return each(those, one -> each(of(record, words[3]), other -> one.number <= other.number));
            default:
                char code = words[3].charAt(0);
                return words[4].equals("must")
                        ? each(those, one -> one.subs.stream().anyMatch(sub -> sub.code == code))
                        : each(those, one -> each(one.subs, sub -> sub.code != code || isIn(sub.value, words[5])));
        }
    }

    private static <T> boolean each(List<T> all, Predicate<T> test) {
        return all.stream().allMatch(test);
    }

    private static boolean isIn(int value, String list) {
        for (String one : list.split(",")) {
            if (new BigInteger(one).equals(BigInteger.valueOf(value))) {
                return true;
            }
        }
        return false;
    }

    private static boolean compare(BigInteger value, String sign, String bound) {
        return Integer.signum(value.compareTo(new BigInteger(bound))) == "<=>".indexOf(sign) - 1;
    }

    private List<Field> of(int record, String tag) {
        return fields.stream().filter(one -> one.record == record && one.tag == Integer.parseInt(tag)).toList();
    }

    private BigInteger sum(int record, String tag) {
        return of(record, tag).stream().map(one -> BigInteger.valueOf(one.value))
                .reduce(BigInteger.ZERO, BigInteger::add);
    }
}
