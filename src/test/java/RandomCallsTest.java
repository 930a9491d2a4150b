import java.util.Random;

/** Any calls with any arguments: nothing but run's ArithmeticException comes out, and twice the same answers. */
public final class RandomCallsTest {
    private static final int CALLS = 512;
    private static final int[] EDGES = {
        Integer.MIN_VALUE, -1, 0, 1, 2, 7, 19, 20, 29, 30, 97, 122, 199, 200, 201, 999, 1000, Integer.MAX_VALUE};
    private static final String[] PIECES = {
        "hard", "warn", "tag", "sum", "share", "by", "sub", "in", "value", "like", "before", "must", "once", "not",
        "and", "or", "when", "1", "2", "-", "-7", "1,2", "=", "<", ">", "#1", "a", ":", "12345678901", "\u00ff"};
    private static final String[] RULES = {
        "hard tag 1 must", "warn share 1 by 2 = 1", "hard tag 1 sub a in 1,2: m", "warn tag 2 like #",
        "warn tag 1 before 2 when sum 1 > 1", "hard not tag 7 value < 0 or tag 7 sub a must: text"};

    public static void main(String[] args) {
        Checks checks = new Checks("RandomCallsTest");
        for (int seed = 0; seed < 400; seed++) {
            checks.due("seed " + seed + ", the same twice", answers(seed, checks), answers(seed, checks));
        }
        checks.end();
    }

    private static long answers(int seed, Checks checks) {
        Random random = new Random(seed);
        CheckRules2 x = new CheckRules2();
        long all = 0;
        for (int call = 0; call < CALLS; call++) {
            try {
                all = all * 31 + answer(x, random);
            } catch (RuntimeException e) {
                checks.due("seed " + seed + ", call " + call + ": " + e, true, false);
            }
        }
        return all;
    }

    private static long answer(CheckRules2 x, Random random) {
        int a = any(random);
        int b = any(random);
        switch (random.nextInt(12)) {
            case 0:
                x.sign(a);
                return 0;
            case 1:
                return Checks.tell(x, anyText(random));
            case 2:
                return Checks.tell(x, RULES[random.nextInt(RULES.length)]);
            case 3:
                return x.field(a, b, any(random));
            case 4:
                return x.subfield(a, b, any(random));
            case 5:
                return runOrThrow(x, a);
            case 6:
                return x.broken(a, b);
            case 7:
                return x.warning(a, b);
            case 8:
                return x.throwsUp(a, random.nextBoolean()) ? 1 : 0;
            case 9:
                return x.except(a, b, random.nextBoolean() ? random.nextLong() : any(random));
            case 10:
                return x.never(a);
            default:
                return x.message(a, b);
        }
    }

    private static long runOrThrow(CheckRules2 x, int record) {
        try {
            return x.run(record);
        } catch (ArithmeticException e) {
            return 1000;
        }
    }

    private static int any(Random random) {
        return random.nextInt(4) == 0 ? random.nextInt() : EDGES[random.nextInt(EDGES.length)];
    }

    private static String anyText(Random random) {
        StringBuilder text = new StringBuilder(random.nextBoolean() ? "hard tag 1" : "warn");
        int pieces = random.nextInt(12);
        for (int i = 0; i < pieces; i++) {
            text.append(random.nextInt(9) == 0 ? "" : " ").append(PIECES[random.nextInt(PIECES.length)]);
        }
        return text.toString();
    }
}
