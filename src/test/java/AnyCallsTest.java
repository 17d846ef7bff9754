/**
 * Any calls in any state: only the exceptions of the document are thrown, and change nothing; the same calls
 * give the same answers; and what would be is what then is.
 */
public final class AnyCallsTest {
    private static final Check CHECK = new Check("any calls");
    private static final int[] ODD = {Integer.MIN_VALUE, Integer.MIN_VALUE + 1, -1000, -999, -2, -1, 0, 1, 2, 3, 4, 5, 6, 7,
        8, 9, 12, 15, 16, 17, 20, 999, 1000, 1999, 2000, 2001, Integer.MAX_VALUE - 1, Integer.MAX_VALUE};
    private static final String[] PIECES = {"point ", "shape ", "move ", "turn ", "flip ", " at ", " of ", " by ",
        " round ", " when ", "a", "b", "s", " x ", " y ", "area ", "crosses ", "inside ", "not ", " and ", " or ", "min",
        "max", "(", ")", "[", "]", ";", ",", "+", "-", "*", "/", "<", ">", "=", "<=", ">=", "7", "12", "1234567", " ",
        "\n", "?", "abcdefghijk", "c", "point a at 1,2;", "shape s of a b c;", "move a by 1,2;"};
    private long seed;

    private AnyCallsTest(long seed) {
        this.seed = seed;
    }

    public static void main(String[] args) {
        for (int i = 0; i < 150; i++) {
            sameAnswers(i);
            anyText(i);
            whatIsToldBefore(i);
        }
        oddArguments(new GridTable());
        oddArguments(Lists.taught(new AnyCallsTest(5).list()));
        CHECK.end();
    }

    private int below(int bound) {
        seed = seed * 6364136223846793005L + 1442695040888963407L;
        return (int) ((seed >>> 33) % bound);
    }

    private String list() {
        StringBuilder out = new StringBuilder();
        int reach = new int[] {3, 6, 20, 900}[below(4)];
        for (int i = 0; i < 9; i++) {
            out.append("point p").append(i).append(" at ").append(below(2 * reach)).append('-').append(reach).append(',')
                .append(below(2 * reach)).append('-').append(reach).append(";\n");
        }
        for (int i = 0; i < 4; i++) {
            out.append("shape s").append(i).append(" of");
            int from = below(9);
            int size = 3 + below(6);
            int gap = below(2) == 0 ? 2 : 4;
            for (int k = 0; k < size; k++) {
                out.append(" p").append((from + k * gap) % 9);
            }
            out.append(";");
        }
        for (int i = 0; i < 7; i++) {
            out.append(step(reach)).append(below(3) == 0 ? ";" : " when " + test(2) + ";");
        }
        return out.toString();
    }

    private String step(int reach) {
        switch (below(3)) {
            case 0: return "move p" + below(9) + " by " + sum() + "," + below(reach) + "-" + reach / 2;
            case 1: return "turn s" + below(4) + " round p" + below(9);
            default: return "flip s" + below(4) + " at p" + below(9);
        }
    }

    private String sum() {
        switch (below(6)) {
            case 0: return "x p" + below(9) + "-y p" + below(9);
            case 1: return "area s" + below(4) + "/" + below(30);
            case 2: return "crosses s" + below(4) + " s" + below(4) + "*" + below(9);
            case 3: return "min(" + below(9) + ",x p" + below(9) + ")*-" + below(4);
            default: return "" + below(8);
        }
    }

    private String test(int deep) {
        switch (below(deep > 0 ? 6 : 2)) {
            case 0: return sum() + new String[] {"<", ">", "=", "<=", ">="}[below(5)] + sum();
            case 1: return "inside p" + below(9) + " s" + below(4);
            case 2: return "not " + test(deep - 1);
            case 3: return "[" + test(deep - 1) + " or " + test(deep - 1) + "]";
            case 4: return test(deep - 1) + " and " + test(deep - 1);
            default: return test(deep - 1) + " or " + test(deep - 1);
        }
    }

    /** Makes any call with arguments of which most are right, and returns what it answers, or throws. */
    private String call(GridTable table) {
        int a = below(12) == 0 ? ODD[below(ODD.length)] : below(9);
        int b = below(12) == 0 ? ODD[below(ODD.length)] : below(4);
        int c = below(12) == 0 ? ODD[below(ODD.length)] : below(30) - 15;
        return answer(table, below(23), a, b, c);
    }

    private static String answer(GridTable table, int call, int a, int b, int c) {
        String before = table.digest() + " " + table.errorAt();
        String name = "call " + call + " of " + a + " " + b + " " + c;
        try {
            return "" + number(table, call, a, b, c);
        } catch (IllegalStateException | IllegalArgumentException | IndexOutOfBoundsException e) {
            Class<?> wanted = call == 0 || call == 17 ? IllegalStateException.class
                : call == 1 || call == 12 ? IllegalArgumentException.class : IndexOutOfBoundsException.class;
            boolean isNamed = e.getClass() == wanted || call == 14 && e.getClass() == IllegalArgumentException.class;
            CHECK.due(name + " throws " + e.getClass(), isNamed ? 1 : 0, 1);
            CHECK.due(name + " throws and changes", before.equals(table.digest() + " " + table.errorAt()) ? 1 : 0, 1);
            return e.getClass().getName();
        }
    }

    private static double number(GridTable table, int call, int a, int b, int c) {
        switch (call) {
            case 0: return table.feed(a, b, c, a + b, a * c);
            case 1: return table.trim(a);
            case 2: return a == 3 ? table.teach() : 0;
            case 3: return table.errorAt();
            case 4: return table.count(a);
            case 5: return table.point(a, b);
            case 6: return table.shape(b, a);
            case 7: return table.corner(b, a);
            case 8: return table.lies(a, b);
            case 9: return table.crosses(a, b);
            case 10: return table.hull(b, a);
            case 11: return table.hullCorner(b, a);
            case 12: return table.nearest(a, c);
            case 13: return table.enter(a, b);
            case 14: return table.put(a, b, c);
            case 15: return table.carry(a) ? 1 : 0;
            case 16: return table.run();
            case 17: return table.undo();
            case 18: return table.step(a, b);
            case 19: return table.would(a);
            case 20: return table.without(a);
            case 21: return table.mean();
            default: return table.digest();
        }
    }

    private static void sameAnswers(int seed) {
        AnyCallsTest one = new AnyCallsTest(seed);
        AnyCallsTest other = new AnyCallsTest(seed);
        GridTable table = new GridTable();
        GridTable same = new GridTable();
        for (int i = 0; i < 2; i++) {
            CHECK.due("teach", Lists.teach(table, one.list()), 0);
            Lists.teach(same, other.list());
            for (int n = 0; n < 100; n++) {
                CHECK.due("the same answer", one.call(table).equals(other.call(same)) ? 1 : 0, 1);
            }
            CHECK.due("the same digest", table.digest(), same.digest());
        }
    }

    /** Reads texts of which most are no lists: no text makes the machine throw, and a wrong one changes nothing. */
    private static void anyText(int seed) {
        AnyCallsTest any = new AnyCallsTest(seed + 1000);
        GridTable table = Lists.taught(any.list());
        for (int i = 0; i < 20; i++) {
            StringBuilder text = new StringBuilder(any.below(2) == 0 ? "" : any.list());
            int pieces = any.below(12);
            for (int n = 0; n < pieces; n++) {
                text.insert(any.below(3) == 0 ? any.below(text.length() + 1) : text.length(),
                    PIECES[any.below(PIECES.length)]);
            }
            if (text.length() > 2000) {
                text.setLength(2000);
            }
            String all = Lists.all(table);
            int error = Lists.teach(table, text.toString());
            CHECK.due("an error from 0 to 5", error >= 0 && error <= 5 ? 1 : 0, 1);
            int at = table.errorAt();
            boolean isPlace = error == 0 ? at == -1 : at >= 0 && at <= text.length();
            CHECK.due("its place in " + text, isPlace ? 1 : 0, 1);
            CHECK.due("all stays", error == 0 || Lists.all(table).equals(all) ? 1 : 0, 1);
        }
    }

    private static void whatIsToldBefore(int seed) {
        AnyCallsTest any = new AnyCallsTest(seed + 2000);
        String list = any.list();
        GridTable table = Lists.taught(list);
        GridTable by = Lists.taught(list);
        for (int round = 0; round < 3; round++) {
            int left = any.below(7);
            long without = table.without(left);
            for (int i = 0; i < 7; i++) {
                if (i != left) {
                    by.carry(i);
                }
            }
            CHECK.due("without", without, by.count(5));
            for (int i = 0; i < 9; i++) {
                by.put(i, table.point(i, 0), table.point(i, 1));
            }
            long[] would = {table.would(0), table.would(5), table.would(6), table.would(7)};
            CHECK.due("would(0)", would[0], table.run());
            for (int what = 5; what <= 7; what++) {
                CHECK.due("would(" + what + ")", would[what - 4], table.count(what));
            }
            for (int i = 0; i < 9; i++) {
                by.put(i, table.point(i, 0), table.point(i, 1));
            }
            toldTwice(table, by, any.below(9), any.below(4));
        }
    }

    /** What is told in two ways, or can be reckoned of other answers. */
    private static void toldTwice(GridTable table, GridTable by, int point, int shape) {
        CHECK.due("crosses", table.crosses(shape, 0), table.crosses(0, shape));
        CHECK.due("crosses itself", table.crosses(shape, shape), table.shape(shape, 3));
        long areas = 0;
        for (int i = 0; i < 4; i++) {
            areas += table.shape(i, 1);
        }
        CHECK.due("count(5)", table.count(5), areas);
        CHECK.due("mean", table.mean(), areas / 4.0);
        boolean isCorner = false;
        for (int i = 0; i < table.shape(shape, 0); i++) {
            isCorner = isCorner || table.corner(shape, i) == point;
        }
        int x = table.point(point, 0);
        int y = table.point(point, 1);
        if (isCorner || Math.abs(x) > 980 || Math.abs(y) > 980) {
            return;
        }
        int least = -1;
        for (int dx = -12; dx <= 12; dx++) {
            for (int dy = -12; dy <= 12; dy++) {
                int way = Math.abs(dx) + Math.abs(dy);
                if (way <= 12 && (least < 0 || way < least)) {
                    by.put(point, x + dx, y + dy);
                    least = by.lies(point, shape) == 1 ? way : least;
                }
            }
        }
        by.put(point, x, y);
        CHECK.due("enter", table.enter(point, shape), least);
    }

    private static void oddArguments(GridTable table) {
        for (int call = 4; call <= 20; call++) {
            for (int a : ODD) {
                for (int b : ODD) {
                    answer(table, call, a, b, 0);
                    answer(table, call, 0, a, b);
                }
            }
        }
        for (int a : ODD) {
            answer(table, 1, a, 0, 0);
        }
    }
}
