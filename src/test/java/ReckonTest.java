import java.util.regex.Matcher;
import java.util.regex.Pattern;

/** Sums and tests of any form, of which it is known as they are made what they come to. */
public final class ReckonTest {
    private static final Check CHECK = new Check("reckon");
    private static final String AHEAD = "point a at 7,-3;point b at 0,0;point c at 10,0;point d at 10,10;"
        + "point e at 0,10;point f at 4,5;shape s of b c d e;shape t of b d c e;shape u of b c f;move f by 0,0 when ";
    private static final String[] PLACES = {"x a", "y a", "x d", "y f", "area s", "area t", "area u", "crosses t t",
        "crosses s u", "crosses t u"};
    private static final int[] PLACE_VALUES = {7, -3, 10, 5, 200, 0, 50, 1, 0, 1};
    private static final String[] FACTS = {"inside f s", "inside a s", "inside f t", "inside b s", "inside f u"};
    private static final boolean[] FACT_VALUES = {true, false, true, false, false};
    private static final int MOST_DEPTH = 8;

    private final Dice dice;
    private final StringBuilder text = new StringBuilder();

    private ReckonTest(Dice dice) {
        this.dice = dice;
    }

    public static void main(String[] args) {
        int[] truths = new int[2];
        int wide = 0;
        for (int i = 0; i < 3000; i++) {
            ReckonTest test = new ReckonTest(new Dice(i));
            boolean holds = test.test(i % (MOST_DEPTH + 1), 1);
            dueStep(test.text.toString(), holds);
            truths[holds ? 1 : 0]++;
            ReckonTest sum = new ReckonTest(new Dice(-i));
            int value = sum.sum(i % (MOST_DEPTH + 1), 2);
            dueStep(sum.text + "=" + told(value), true);
            dueStep(told(value) + "<" + sum.text, false);
            wide += value < -1000000 || value > 1000000 ? 1 : 0;
        }
        CHECK.due("whether many tests hold, many do not, and many sums are wide",
            truths[0] > 500 && truths[1] > 500 && wide > 500 ? 1 : 0, 1);
        CHECK.end();
    }

    private static void dueStep(String test, boolean holds) {
        String list = AHEAD + test + ";";
        if (tokens(list) > 400) {
            return;
        }
        GridTable table = new GridTable();
        int error = Lists.teach(table, list);
        CHECK.due("error of " + test, error, 0);
        if (error == 0) {
            CHECK.due("whether it holds: " + test, table.step(0, 3), holds ? 1 : 0);
        }
    }

    private static int tokens(String list) {
        int tokens = 0;
        Matcher matcher = Pattern.compile("[a-z][a-z0-9]*|[0-9]+|[<>]=|[^ ]").matcher(list);
        while (matcher.find()) {
            tokens++;
        }
        return tokens;
    }

    /** A number of 32 bits as a sum, without any depth. */
    private static String told(int number) {
        int high = number >> 16;
        return (high < 0 ? "0-" + -high : "" + high) + "*65536+" + (number & 65535);
    }

    /** Writes a sum, in which the depth grows by so much at most, and returns what it comes to. */
    private int sum(int deep, int wide) {
        int all = product(deep, wide);
        for (int n = dice.below(wide + 1); n > 0; n--) {
            if (dice.oneOf(2)) {
                put("+");
                all = (int) ((long) all + product(deep, wide));
            } else {
                put("-");
                all = (int) ((long) all - product(deep, wide));
            }
        }
        return all;
    }

    private int product(int deep, int wide) {
        int all = value(deep, wide);
        for (int n = dice.below(wide + 1); n > 0; n--) {
            if (dice.oneOf(2)) {
                put("*");
                all = (int) ((long) all * value(deep, wide));
            } else {
                put("/");
                int right = value(deep, wide);
                all = right == 0 ? 0 : (int) ((long) all / right);
            }
        }
        return all;
    }

    private int value(int deep, int wide) {
        if (deep == 0 || dice.oneOf(3)) {
            return leaf();
        }
        int less = wide > 0 ? dice.below(wide + 1) : 0;
        if (dice.oneOf(2)) {
            put("-");
            return (int) -(long) value(deep - 1, less);
        }
        int sort = dice.below(3);
        put(sort == 0 ? "(" : sort == 1 ? "min(" : "max(");
        int left = sum(deep - 1, less);
        int both = left;
        if (sort > 0) {
            put(",");
            int right = sum(deep - 1, 0);
            both = sort == 1 == left < right ? left : right;
        }
        put(")");
        return both;
    }

    private int leaf() {
        int sort = dice.below(4);
        if (sort == 0) {
            int i = dice.below(PLACES.length);
            put(PLACES[i]);
            return PLACE_VALUES[i];
        }
        int number = sort == 1 ? dice.below(1000000) : dice.below(12);
        put("" + number);
        return number;
    }

    /** Writes a test, and returns whether it holds. */
    private boolean test(int deep, int wide) {
        boolean all = both(deep, wide);
        for (int n = dice.below(wide + 2); n > 0; n--) {
            put(" or ");
            all |= both(deep, wide);
        }
        return all;
    }

    private boolean both(int deep, int wide) {
        boolean all = single(deep, wide);
        for (int n = dice.below(wide + 2); n > 0; n--) {
            put(" and ");
            all &= single(deep, wide);
        }
        return all;
    }

    private boolean single(int deep, int wide) {
        int sort = dice.below(deep > 0 ? 5 : 2);
        if (sort == 0) {
            int i = dice.below(FACTS.length);
            put(FACTS[i]);
            return FACT_VALUES[i];
        }
        if (sort == 1) {
            return relation(deep);
        }
        if (sort == 2) {
            put("[");
            boolean holds = test(deep - 1, 0);
            put("]");
            return holds;
        }
        put("not ");
        return !single(deep - 1, wide);
    }

    private boolean relation(int deep) {
        int left = sum(Math.min(deep, 2), 1);
        String sign = dice.pick("<", ">", "=", "<=", ">=");
        put(sign);
        if (dice.oneOf(3)) {
            // Both sides the same: the edge of all five.
            put(told(left));
            return sign.contains("=");
        }
        int right = sum(Math.min(deep, 2), 0);
        int order = Integer.compare(left, right);
        return order == 0 ? sign.contains("=") : order < 0 == sign.contains("<") && !sign.equals("=");
    }

    private void put(String more) {
        text.append(more);
    }
}
