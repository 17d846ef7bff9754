import java.util.ArrayList;
import java.util.List;

/** Promises 16 to 20, and what the document says of steps, tests, sums and of what was done. */
public final class ByHandTest {
    private static final Check CHECK = new Check("by hand");
    private static final String ABC = "point a at 0,0;point b at 10,0;point c at 0,10;";
    private static final String ABCS = ABC + "shape s of a b c;";

    private ByHandTest() {
    }

    public static void main(String[] args) {
        put();
        carry();
        run();
        runByTurn();
        undo();
        undoOfTwelve();
        undoOfAllSorts();
        undoOfAnything();
        step();
        move();
        turn();
        flip();
        sums();
        deepestSums();
        sumsThatWrap();
        sumsOfPlaces();
        relations();
        joints();
        insideAndCrosses();
        CHECK.end();
    }

    private static void duePlace(GridTable table, int point, int x, int y) {
        CHECK.due("x of point " + point, table.point(point, 0), x);
        CHECK.due("y of point " + point, table.point(point, 1), y);
    }

    private static void put() {
        GridTable table = Lists.taught(ABCS);
        CHECK.due("put", table.put(0, 3, -4), 25);
        duePlace(table, 0, 3, -4);
        duePlace(table, 1, 10, 0);
        CHECK.due("put to the same place", table.put(0, 3, -4), 0);
        CHECK.due("both are kept", table.count(4), 2);
        CHECK.due("put to a corner", table.put(2, -999, -999), 999 * 999 + 1009 * 1009);
        CHECK.due("put to the other corner", table.put(2, 999, 999), 2 * 1998 * 1998);
        duePlace(table, 2, 999, 999);
        String all = Lists.all(table);
        CHECK.dueIndex("put(-1, ..)", () -> table.put(-1, 0, 0));
        CHECK.dueIndex("put(3, ..)", () -> table.put(3, 0, 0));
        CHECK.dueIndex("put(3, ..) with a wrong place", () -> table.put(3, 1000, 0));
        CHECK.dueArgument("put(0, 1000, 0)", () -> table.put(0, 1000, 0));
        CHECK.dueArgument("put(0, -1000, 0)", () -> table.put(0, -1000, 0));
        CHECK.dueArgument("put(0, 0, 1000)", () -> table.put(0, 0, 1000));
        CHECK.dueArgument("put(0, 0, -1000)", () -> table.put(0, 0, -1000));
        CHECK.dueArgument("put of the least number", () -> table.put(0, Integer.MIN_VALUE, Integer.MAX_VALUE));
        CHECK.due("throws change nothing", Lists.all(table).equals(all) ? 1 : 0, 1);
        CHECK.due("puts are no steps", table.count(3), 0);
    }

    private static void carry() {
        GridTable table = Lists.taught(ABCS + "move a by 1,2;move b by 1,1 when x a>=2;flip s at a when 1=2;");
        CHECK.due("its test does not hold", table.carry(1) ? 1 : 0, 0);
        CHECK.due("so nothing is kept", table.count(4), 0);
        CHECK.due("nor counted", table.count(3) + table.step(1, 4), 0);
        duePlace(table, 1, 10, 0);
        CHECK.due("it has no test", table.carry(0) ? 1 : 0, 1);
        CHECK.due("again", table.carry(0) ? 1 : 0, 1);
        duePlace(table, 0, 2, 4);
        CHECK.due("its test holds now", table.carry(1) ? 1 : 0, 1);
        duePlace(table, 1, 11, 1);
        CHECK.due("all are kept", table.count(4), 3);
        CHECK.due("and counted", table.count(3), 3);
        CHECK.due("of the first step", table.step(0, 4), 2);
        CHECK.due("of the second step", table.step(1, 4), 1);
        String all = Lists.all(table);
        CHECK.dueIndex("carry(-1)", () -> table.carry(-1) ? 1 : 0);
        CHECK.dueIndex("carry(3)", () -> table.carry(3) ? 1 : 0);
        CHECK.due("throws change nothing", Lists.all(table).equals(all) ? 1 : 0, 1);
        GridTable still = Lists.taught(ABCS + "move a by 0,0;");
        CHECK.due("a step that moves nothing", still.carry(0) ? 1 : 0, 1);
        CHECK.due("is kept", still.count(4), 1);
        CHECK.due("and moves nothing back", still.undo(), 0);
    }

    private static void run() {
        GridTable table = Lists.taught(ABCS + "move a by 1,0;move b by 1,1 when 1=2;move a by 0,5;");
        CHECK.due("run", table.run(), 2);
        duePlace(table, 0, 1, 5);
        duePlace(table, 1, 10, 0);
        CHECK.due("it is kept as one thing", table.count(4), 1);
        CHECK.due("its steps are counted", table.count(3), 2);
        CHECK.due("the first", table.step(0, 4), 1);
        CHECK.due("not the second", table.step(1, 4), 0);
        CHECK.due("the third", table.step(2, 4), 1);
        CHECK.due("undo of all", table.undo(), 1);
        duePlace(table, 0, 0, 0);
        GridTable none = Lists.taught(ABCS + "move a by 1,0 when 1=2;");
        CHECK.due("run of no step", none.run(), 0);
        CHECK.due("is kept too", none.count(4), 1);
        StringBuilder many = new StringBuilder(ABC);
        for (int i = 0; i < 20; i++) {
            many.append("move a by 1,").append(i).append(';');
        }
        GridTable most = Lists.taught(many.toString());
        CHECK.due("would of twenty steps", most.would(0), 20);
        CHECK.due("run of twenty steps", most.run(), 20);
        duePlace(most, 0, 20, 190);
        CHECK.due("run again", most.run(), 20);
        CHECK.due("count of forty", most.count(3), 40);
        for (int i = 0; i < 20; i++) {
            CHECK.due("times of step " + i, most.step(i, 4), 2);
        }
        CHECK.dueIndex("the step behind the last one", () -> most.carry(20) ? 1 : 0);
        runOfDeepSteps();
    }

    /** Twenty steps with tests, the last one as deep as a step can be. */
    private static void runOfDeepSteps() {
        StringBuilder many = new StringBuilder(ABC);
        for (int i = 0; i < 19; i++) {
            many.append("move a by 1,2 when 1=1;");
        }
        StringBuilder deep = new StringBuilder();
        int value = 1 + 2 * 3;
        for (int i = 0; i < 8; i++) {
            deep.append("1+2*max(0,");
            value = 1 + 2 * value;
        }
        deep.append("1+2*3").append(Lists.repeat(")", 8));
        many.append("move b by ").append(deep).append("-1700,4 when 1=1;");
        GridTable table = Lists.taught(many.toString());
        CHECK.due("run", table.run(), 20);
        duePlace(table, 0, 19, 38);
        duePlace(table, 1, 10 + value - 1700, 4);
    }

    /** A step's test is looked at as it comes to its turn, behind those ahead of it. */
    private static void runByTurn() {
        GridTable table = Lists.taught(ABC + "move a by 5,0 when x a=0;move b by 0,1 when x a=5;move c by 1,1 when x a=0;");
        CHECK.due("run", table.run(), 2);
        duePlace(table, 0, 5, 0);
        duePlace(table, 1, 10, 1);
        duePlace(table, 2, 0, 10);
        CHECK.due("run again", table.run(), 1);
        duePlace(table, 1, 10, 2);
        table.undo();
        table.undo();
        duePlace(table, 0, 0, 0);
        duePlace(table, 1, 10, 0);
        CHECK.due("counted in all", table.count(3), 3);
        CHECK.due("counted of the second", table.step(1, 4), 2);
    }

    private static void undo() {
        GridTable table = Lists.taught(ABCS + "turn s round a;");
        CHECK.dueState("undo of nothing", table::undo);
        table.put(0, 5, 5);
        table.carry(0);
        duePlace(table, 1, 10, 10);
        table.put(0, 5, 6);
        table.run();
        CHECK.due("four things", table.count(4), 4);
        CHECK.due("undo of the run", table.undo(), 2);
        CHECK.due("three things", table.count(4), 3);
        CHECK.due("undo of a put", table.undo(), 1);
        duePlace(table, 0, 5, 5);
        CHECK.due("undo of the carry", table.undo(), 2);
        duePlace(table, 1, 10, 0);
        duePlace(table, 2, 0, 10);
        table.put(2, 7, 7);
        CHECK.due("undo of a later put", table.undo(), 1);
        duePlace(table, 2, 0, 10);
        CHECK.due("undo of the first put", table.undo(), 1);
        duePlace(table, 0, 0, 0);
        CHECK.dueState("undo of no more", table::undo);
        CHECK.due("steps are counted still", table.count(3), 2);
        GridTable sides = Lists.taught(ABC);
        sides.put(0, 0, 3);
        CHECK.due("only y is another one", sides.undo(), 1);
        sides.put(0, 3, 0);
        CHECK.due("only x is another one", sides.undo(), 1);
        CHECK.due("a list of sixteen", Lists.teach(sides, sixteen()), 0);
        sides.run();
        CHECK.due("all sixteen go back", sides.undo(), 16);
    }

    private static String sixteen() {
        StringBuilder out = new StringBuilder();
        for (int i = 0; i < 16; i++) {
            out.append("point p").append(i).append(" at ").append(i).append(",1;");
        }
        for (int i = 0; i < 16; i++) {
            out.append("move p").append(i).append(" by 1,1;");
        }
        return out.toString();
    }

    private static void undoOfTwelve() {
        GridTable table = Lists.taught(ABC);
        for (int i = 1; i <= 15; i++) {
            table.put(0, i, 0);
            CHECK.due("kept", table.count(4), Math.min(i, 12));
        }
        for (int i = 14; i >= 3; i--) {
            CHECK.due("undo", table.undo(), 1);
            duePlace(table, 0, i, 0);
        }
        CHECK.dueState("undo of the thirteenth", table::undo);
        duePlace(table, 0, 3, 0);
        for (int i = 0; i < 30; i++) {
            table.put(1, i, i);
            table.put(1, i, i + 1);
            table.undo();
        }
        // The last second put of each pair pushed one out and was taken back.
        CHECK.due("kept", table.count(4), 11);
        for (int i = 28; i >= 18; i--) {
            table.undo();
            duePlace(table, 1, i, i);
        }
        CHECK.due("kept", table.count(4), 0);
    }

    /** Twelve things are kept, whatever they are, and a carry() that is not carried out is none of them. */
    private static void undoOfAllSorts() {
        GridTable table = Lists.taught(ABCS + "move a by 1,0;move b by 0,0;move c by 5,5 when 1=2;");
        for (int i = 0; i < 5; i++) {
            table.put(1, 10, i + 1);
            table.carry(2);
            table.carry(1);
            table.run();
        }
        // Fifteen things: the first put, the first carry and the first run are not kept any more.
        CHECK.due("kept", table.count(4), 12);
        for (int i = 4; i >= 1; i--) {
            CHECK.due("undo of a run", table.undo(), 1);
            duePlace(table, 0, i, 0);
            CHECK.due("undo of a carry that moved nothing", table.undo(), 0);
            CHECK.due("undo of a put", table.undo(), 1);
            duePlace(table, 1, 10, i);
        }
        CHECK.due("kept", table.count(4), 0);
        CHECK.dueState("undo of no more", table::undo);
        duePlace(table, 0, 1, 0);
        duePlace(table, 1, 10, 1);
        duePlace(table, 2, 0, 10);
        CHECK.due("steps in all", table.count(3), 15);
    }

    private static int[] places(GridTable table) {
        int[] out = new int[6];
        for (int i = 0; i < 6; i++) {
            out[i] = table.point(i / 2, i % 2);
        }
        return out;
    }

    private static void undoOfAnything() {
        for (int seed = 0; seed < 60; seed++) {
            Dice dice = new Dice(seed);
            GridTable table = Lists.taught(ABCS + "move a by 1,0 when x a<3;turn s round b;flip s at c when x b>x a;"
                + "move c by 0,0;");
            List<int[]> kept = new ArrayList<>();
            int carried = 0;
            for (int n = 0; n < 30; n++) {
                int[] before = places(table);
                int sort = dice.below(seed % 2 == 0 ? 5 : 4);
                if (sort >= 3) {
                    undoOne(table, kept, before);
                    continue;
                }
                int more = sort == 0 ? 0 * table.put(dice.below(3), dice.from(-9, 9), dice.from(-9, 9))
                    : sort == 1 ? table.run() : table.carry(dice.below(4)) ? 1 : 0;
                if (sort < 2 || more > 0) {
                    kept.add(before);
                }
                if (kept.size() > 12) {
                    kept.remove(0);
                }
                carried += more;
                CHECK.due("kept", table.count(4), kept.size());
                CHECK.due("carried out", table.count(3), carried);
            }
        }
    }

    private static void undoOne(GridTable table, List<int[]> kept, int[] before) {
        if (kept.isEmpty()) {
            CHECK.dueState("undo of nothing", table::undo);
            return;
        }
        int[] due = kept.remove(kept.size() - 1);
        int moved = 0;
        for (int i = 0; i < 6; i += 2) {
            moved += due[i] != before[i] || due[i + 1] != before[i + 1] ? 1 : 0;
        }
        CHECK.due("undo", table.undo(), moved);
        for (int i = 0; i < 6; i++) {
            CHECK.due("place behind undo", table.point(i / 2, i % 2), due[i]);
        }
        CHECK.due("kept", table.count(4), kept.size());
    }

    private static void step() {
        GridTable table = Lists.taught(ABCS + "shape t of c b a;move b by 1,2;turn t round c;flip s at b when x a=1;"
            + "move c by 0,0 when not x a=1;");
        int[][] wanted = {{0, 1, -1, 1, 0}, {1, 1, 2, 1, 0}, {2, 0, 1, 0, 0}, {0, 2, -1, 1, 0}};
        for (int i = 0; i < 4; i++) {
            for (int what = 0; what < 5; what++) {
                CHECK.due("step " + i + " " + what, table.step(i, what), wanted[i][what]);
            }
        }
        table.put(0, 1, 0);
        CHECK.due("its test holds now", table.step(2, 3), 1);
        CHECK.due("this one's does not", table.step(3, 3), 0);
        CHECK.due("that is no carrying out", table.step(2, 4), 0);
        table.carry(2);
        CHECK.due("now it was", table.step(2, 4), 1);
        table.undo();
        CHECK.due("also behind undo", table.step(2, 4), 1);
        CHECK.dueIndex("step(-1, 0)", () -> table.step(-1, 0));
        CHECK.dueIndex("step(4, 0)", () -> table.step(4, 0));
        CHECK.dueIndex("step(0, -1)", () -> table.step(0, -1));
        CHECK.dueIndex("step(0, 5)", () -> table.step(0, 5));
    }

    private static void move() {
        // y is reckoned with the x that was.
        GridTable table = Lists.taught(ABC + "move b by y c,x b+1;");
        table.carry(0);
        duePlace(table, 1, 20, 11);
        // What is added to the place does not wrap around, and is held.
        GridTable far = Lists.taught("point a at 999,-999;move a by 999999*2147+483647,-999999*2147-483648;"
            + "move a by 0-1998,1998;");
        far.carry(0);
        duePlace(far, 0, 999, -999);
        far.carry(1);
        duePlace(far, 0, -999, 999);
        far.carry(1);
        duePlace(far, 0, -999, 999);
        // The greatest and the least number, which would wrap around if they were added in 32 bits.
        GridTable most = Lists.taught("point a at 999,-999;point b at 1,-1;"
            + "move a by 2147*500000*2+483647,0-2147*500000*2-483648;"
            + "move b by 2147*500000*2+483647,0-2147*500000*2-483648;"
            + "move b by 0-2147*500000*2-483648,2147*500000*2+483647;");
        most.carry(0);
        duePlace(most, 0, 999, -999);
        most.carry(1);
        duePlace(most, 1, 999, -999);
        most.carry(2);
        duePlace(most, 1, -999, 999);
        GridTable edge = Lists.taught("point a at 998,-998;move a by 1,-1;");
        edge.carry(0);
        duePlace(edge, 0, 999, -999);
        edge.carry(0);
        duePlace(edge, 0, 999, -999);
    }

    private static void turn() {
        GridTable table = Lists.taught("point a at 1,2;point b at 5,2;point c at 1,5;point p at 0,0;point q at 9,9;"
            + "shape s of a b c;turn s round p;turn s round a;");
        table.carry(0);
        duePlace(table, 0, -2, 1);
        duePlace(table, 1, -2, 5);
        duePlace(table, 2, -5, 1);
        duePlace(table, 3, 0, 0);
        duePlace(table, 4, 9, 9);
        // Round one of its own corners, as this lies ahead of the turn.
        table.carry(1);
        duePlace(table, 0, -2, 1);
        duePlace(table, 1, -6, 1);
        duePlace(table, 2, -2, -2);
        GridTable last = Lists.taught("point a at 1,2;point b at 5,2;point c at 1,5;shape s of a b c;turn s round c;"
            + "turn s round b;");
        last.carry(0);
        duePlace(last, 0, 4, 5);
        duePlace(last, 1, 4, 9);
        duePlace(last, 2, 1, 5);
        last.carry(1);
        duePlace(last, 0, 8, 9);
        duePlace(last, 1, 4, 9);
        duePlace(last, 2, 8, 6);
        GridTable held = Lists.taught("point a at 900,0;point b at 900,900;point c at -900,-900;shape s of a b c;"
            + "point p at 900,900;turn s round p;");
        held.carry(0);
        duePlace(held, 0, 999, 900);
        duePlace(held, 1, 900, 900);
        duePlace(held, 2, 999, -900);
        GridTable low = Lists.taught("point a at -900,-100;point b at 0,0;point c at -900,-800;shape s of a b c;"
            + "point p at -800,-900;turn s round p;");
        low.carry(0);
        duePlace(low, 0, -999, -999);
        duePlace(low, 1, -999, -100);
        duePlace(low, 2, -900, -999);
    }

    private static void flip() {
        GridTable table = Lists.taught("point a at 1,2;point b at 5,3;point c at 1,5;point p at 2,9;point q at 9,9;"
            + "shape s of a b c;flip s at p;flip s at b;");
        table.carry(0);
        duePlace(table, 0, 3, 2);
        duePlace(table, 1, -1, 3);
        duePlace(table, 2, 3, 5);
        duePlace(table, 3, 2, 9);
        duePlace(table, 4, 9, 9);
        // At one of its own corners, as this lies ahead of the flip.
        table.carry(1);
        duePlace(table, 0, -5, 2);
        duePlace(table, 1, -1, 3);
        duePlace(table, 2, -5, 5);
        GridTable held = Lists.taught("point a at 900,0;point b at -900,-999;point c at 0,999;shape s of a b c;"
            + "point p at -100,0;point q at 100,0;flip s at p;flip s at q;");
        held.carry(0);
        duePlace(held, 0, -999, 0);
        duePlace(held, 1, 700, -999);
        duePlace(held, 2, -200, 999);
        held.carry(1);
        duePlace(held, 0, 999, 0);
        duePlace(held, 1, -500, -999);
        duePlace(held, 2, 400, 999);
    }

    /** What a sum comes to, as the place at which a point lies at first. */
    private static void dueSum(String sum, int wanted) {
        GridTable table = Lists.taught("point p at 7,-3;point a at 2,4;point b at 6,4;point c at 2,9;"
            + "shape s of a b c;point d at 3,2;shape t of d b c;point q at " + sum + ",-(" + sum + ");");
        CHECK.due("x of " + sum, table.point(5, 0), wanted);
        CHECK.due("y of " + sum, table.point(5, 1), -wanted);
    }

    private static void sums() {
        dueSum("0", 0);
        dueSum("999", 999);
        dueSum("1000", 999);
        dueSum("999999", 999);
        dueSum("-999999", -999);
        dueSum("2+3*4", 14);
        dueSum("2*3+4", 10);
        dueSum("(2+3)*4", 20);
        dueSum("10-4-3", 3);
        dueSum("10-(4-3)", 9);
        dueSum("10-4+3", 9);
        dueSum("10-2*3-1", 3);
        dueSum("1+2*3*4-5*6/4+7", 25);
        dueSum("100/5/2", 10);
        dueSum("100/(5/2)", 50);
        dueSum("7*10/4", 17);
        dueSum("7/4*10", 10);
        dueSum("7/2", 3);
        dueSum("-7/2", -3);
        dueSum("7/-2", -3);
        dueSum("-7/-2", 3);
        dueSum("-(7/2)", -3);
        dueSum("1/0", 0);
        dueSum("0/0", 0);
        dueSum("5+7/(3-3)", 5);
        dueSum("- - -5", -5);
        dueSum("--5", 5);
        dueSum("-2*-3", 6);
        dueSum("-2-3", -5);
        dueSum("4--3", 7);
        dueSum("4*-3", -12);
        dueSum("-(2-5)", 3);
        dueSum("min(3,5)", 3);
        dueSum("min(5,3)", 3);
        dueSum("min(-5,3)", -5);
        dueSum("max(3,5)", 5);
        dueSum("max(5,3)", 5);
        dueSum("max(-5,-3)", -3);
        dueSum("min(2+3,2*3)", 5);
        dueSum("max(2+3,2*3)*2", 12);
        dueSum("-min(4,max(1,2))", -2);
        dueSum("1-min(4,2)-max(0,3)*2", -7);
        dueSum("x p", 7);
        dueSum("y p", -3);
        dueSum("x p-y p", 10);
        dueSum("-x p", -7);
        dueSum("area s", 20);
        dueSum("area s-area t", 20 - 23);
        dueSum("crosses s t", 1);
        dueSum("crosses t s*10+crosses s s", 10);
        dueSum("((((((9))))))-1", 8);
    }

    /** Sums and tests that leave as much waiting as the depth allows. */
    private static void deepestSums() {
        StringBuilder sum = new StringBuilder();
        int wanted = 1 + 2 * 3;
        // dueSum() adds two to the depth.
        for (int i = 0; i < 6; i++) {
            sum.append("1+2*max(0,");
            wanted = 1 + 2 * wanted;
        }
        sum.append("1+2*3").append(Lists.repeat(")", 6));
        dueSum(sum.toString(), wanted);
        StringBuilder mixed = new StringBuilder("1=2 or 1=1 and ");
        for (int i = 0; i < 4; i++) {
            mixed.append("[1=2 or 1=1 and ");
        }
        mixed.append("9+2*max(1,9-2*max(2,9+3*max(3,9*max(4,5)))) < 0-1");
        dueTest(mixed + Lists.repeat("]", 4), 0);
        dueTest(mixed.toString().replace("< 0-1", "= 11") + Lists.repeat("]", 4), 1);
    }

    private static void sumsThatWrap() {
        // 999999 * 999999 is 232 * 2^32 + 3565587329, and this is -729379967 in 32 bits.
        dueSum("999999*999999/999999", -729);
        dueSum("999999*999999+729*999999+380696+5", 5);
        dueSum("999999*999999*3/999999-2100", 6);
        // 2147 * 1000000 + 483647 is the greatest number.
        dueSum("2147*500000*2+483647", 999);
        dueSum("(2147*500000*2+483647+1)/999999/10", -214);
        dueSum("-(2147*500000*2+483647+1)/999999/10", -214);
        dueSum("0-2147*500000*2-483648-1", 999);
        dueSum("(0-2147*500000*2-483648-1)/999999/10", 214);
        // The least number has no other sign, and / -1 leaves it as it is.
        GridTable table = Lists.taught("point a at -2147*500000*2-483648,(-2147*500000*2-483648)/-1;"
            + "point b at -(-2147*500000*2-483648),(-2147*500000*2-483648)*-1;point c at 2147*500000*2+483647+1,0;");
        duePlace(table, 0, -999, -999);
        duePlace(table, 1, -999, -999);
        duePlace(table, 2, -999, 0);
    }

    private static void sumsOfPlaces() {
        // At first a point is reckoned with all that is told ahead as it is at first, x before it lies anywhere.
        GridTable table = Lists.taught("point a at 3,4;point b at x a*2,y a-9;point c at 0,0;shape s of a b c;"
            + "point d at area s,crosses s s;move a by 50,50;point e at x a,y a+x b;");
        duePlace(table, 1, 6, -5);
        duePlace(table, 3, 39, 0);
        duePlace(table, 4, 3, 10);
        // What is held at first is what others see.
        GridTable held = Lists.taught("point a at 5000,0-5000;point b at x a-1,y a+1;");
        duePlace(held, 0, 999, -999);
        duePlace(held, 1, 998, -998);
        // Steps reckon with the places as they are now.
        GridTable now = Lists.taught("point a at 1,1;point b at 2,2;move b by x a,y a;");
        now.put(0, 10, 20);
        now.carry(0);
        duePlace(now, 1, 12, 22);
    }

    /** Whether a test holds. */
    private static void dueTest(String test, int wanted) {
        GridTable table = Lists.taught("point a at 0,0;point b at 10,0;point c at 10,10;point d at 0,10;point in at 4,5;"
            + "point on at 5,0;shape s of a b c d;shape t of a c b d;move a by 1,1 when " + test + ";");
        CHECK.due("whether it holds: " + test, table.step(0, 3), wanted);
        CHECK.due("whether it is carried out: " + test, table.carry(0) ? 1 : 0, wanted);
    }

    private static void relations() {
        String[] signs = {"<", ">", "=", "<=", ">="};
        int[][] wanted = {{1, 0, 0, 1, 0}, {0, 0, 1, 1, 1}, {0, 1, 0, 0, 1}};
        String[][] sides = {{"1", "2"}, {"2", "2"}, {"3", "2"}};
        for (int i = 0; i < 3; i++) {
            for (int k = 0; k < 5; k++) {
                dueTest(sides[i][0] + signs[k] + sides[i][1], wanted[i][k]);
                dueTest("not " + sides[i][0] + signs[k] + sides[i][1], 1 - wanted[i][k]);
            }
        }
        dueTest("-1<1", 1);
        dueTest("-(2147*500000*2)<2147*500000*2+483647", 1);
        dueTest("1+1=2", 1);
        dueTest("2=1+1", 1);
        dueTest("1+2*3<=8-1", 1);
        dueTest("x c+y c>=20", 1);
        dueTest("x b>x d", 1);
        dueTest("y b>y d", 0);
        dueTest("area s=200", 1);
        dueTest("area t=0", 1);
    }

    private static void joints() {
        String[] facts = {"1=2", "1=1"};
        for (int a = 0; a < 2; a++) {
            for (int b = 0; b < 2; b++) {
                dueTest(facts[a] + " and " + facts[b], a & b);
                dueTest(facts[a] + " or " + facts[b], a | b);
                dueTest("not " + facts[a] + " and " + facts[b], 1 - a & b);
                dueTest("not " + facts[a] + " or " + facts[b], 1 - a | b);
                dueTest("not [" + facts[a] + " and " + facts[b] + "]", 1 - (a & b));
                dueTest("not not " + facts[a] + " and " + facts[b], a & b);
                for (int c = 0; c < 2; c++) {
                    threeJoints(facts, a, b, c);
                }
            }
        }
    }

    private static void threeJoints(String[] facts, int a, int b, int c) {
        dueTest(facts[a] + " or " + facts[b] + " and " + facts[c], a | b & c);
        dueTest(facts[a] + " and " + facts[b] + " or " + facts[c], a & b | c);
        dueTest("[" + facts[a] + " or " + facts[b] + "] and " + facts[c], (a | b) & c);
        dueTest(facts[a] + " and [" + facts[b] + " or " + facts[c] + "]", a & (b | c));
        dueTest(facts[a] + " and " + facts[b] + " and " + facts[c], a & b & c);
        dueTest(facts[a] + " or " + facts[b] + " or " + facts[c], a | b | c);
        dueTest(facts[a] + " or " + facts[b] + " and " + facts[c] + " or " + facts[a] + " and " + facts[c],
            a | b & c | a & c);
        dueTest(facts[a] + " or not " + facts[b] + " and not not " + facts[c], a | 1 - b & c);
    }

    private static void insideAndCrosses() {
        dueTest("inside in s", 1);
        dueTest("inside on s", 0);
        dueTest("inside a s", 0);
        dueTest("not inside in s", 0);
        dueTest("inside in s and inside in t", 1);
        dueTest("inside in s and inside on t", 0);
        dueTest("crosses s s=0", 1);
        dueTest("crosses t t=1", 1);
        dueTest("crosses s t=0", 1);
        dueTest("crosses t t+crosses s t*5<2", 1);
    }
}
