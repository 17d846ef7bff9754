/** Promises 21 to 24: would, without, mean, digest. */
public final class WhatWouldBeTest {
    private static final Check CHECK = new Check("what would be");
    private static final String ABCS = "point a at 0,0;point b at 10,0;point c at 0,10;shape s of a b c;";

    private WhatWouldBeTest() {
    }

    public static void main(String[] args) {
        would();
        wouldByTurn();
        without();
        mean();
        digestOfNothing();
        digest();
        digestTellsAll();
        CHECK.end();
    }

    private static void would() {
        GridTable table = Lists.taught(ABCS + "point p at 1,2;point q at 50,50;shape t of p b c;"
            + "move p by -20,0;move q by 1,1 when 1=2;move q by -48,-48;");
        String all = Lists.all(table);
        int area = table.count(5);
        CHECK.due("steps", table.would(0), 2);
        CHECK.due("areas", table.would(5), 100 + 270);
        CHECK.due("crossings", table.would(6), 1);
        CHECK.due("points inside", table.would(7), 1);
        CHECK.due("nothing is changed", Lists.all(table).equals(all) ? 1 : 0, 1);
        CHECK.due("nor counted", table.count(3) + table.count(4) + table.step(0, 4), 0);
        CHECK.due("areas now", table.count(5), area);
        for (int what : new int[] {-1, 1, 2, 3, 4, 8, 9, Integer.MIN_VALUE, Integer.MAX_VALUE}) {
            CHECK.dueIndex("would(" + what + ")", () -> table.would(what));
        }
        int would5 = table.would(5);
        int would6 = table.would(6);
        int would7 = table.would(7);
        table.run();
        CHECK.due("areas as told", table.count(5), would5);
        CHECK.due("crossings as told", table.count(6), would6);
        CHECK.due("points inside as told", table.count(7), would7);
        table.undo();
        CHECK.due("undo behind would", Lists.all(table).split(" ")[5].equals(all.split(" ")[5]) ? 1 : 0, 1);
    }

    private static void wouldByTurn() {
        GridTable table = Lists.taught(ABCS + "move b by 10,0 when x b=10;move b by 10,0 when x b=20;"
            + "move b by 10,0 when x b=10;");
        CHECK.due("steps", table.would(0), 2);
        CHECK.due("areas", table.would(5), 300);
        table.put(1, 20, 0);
        CHECK.due("steps from where the points are now", table.would(0), 1);
        CHECK.due("areas from where the points are now", table.would(5), 300);
        CHECK.due("put is all that was done", table.count(4), 1);
        CHECK.due("undo", table.undo(), 1);
        CHECK.due("x as it was", table.point(1, 0), 10);
        CHECK.due("without steps", Lists.taught(ABCS).would(0), 0);
        CHECK.due("areas without steps", Lists.taught(ABCS).would(5), 100);
    }

    private static void without() {
        GridTable table = Lists.taught(ABCS + "move b by 10,0;move b by 5,0 when x b=20;move c by 0,10;"
            + "move c by 0,1 when 1=2;");
        String all = Lists.all(table);
        CHECK.due("with all", table.would(5), 25 * 20);
        CHECK.due("without the first, and so without the second", table.without(0), 10 * 20);
        CHECK.due("without the second", table.without(1), 20 * 20);
        CHECK.due("without the third", table.without(2), 25 * 10);
        CHECK.due("without one that is not carried out", table.without(3), 25 * 20);
        CHECK.due("nothing is changed", Lists.all(table).equals(all) ? 1 : 0, 1);
        CHECK.dueIndex("without(-1)", () -> table.without(-1));
        CHECK.dueIndex("without(4)", () -> table.without(4));
        table.put(2, 0, 30);
        CHECK.due("from where the points are now", table.without(0), 10 * 40);
        CHECK.dueIndex("without steps", () -> Lists.taught(ABCS).without(0));
    }

    private static void mean() {
        CHECK.due("mean without shapes", Lists.taught("point a at 1,2;").mean(), 0.0);
        CHECK.due("mean of one", Lists.taught(ABCS).mean(), 100.0);
        GridTable two = Lists.taught(ABCS + "point d at 1,1;shape t of a b d;");
        CHECK.due("mean of two", two.mean(), 55.0);
        two.put(3, 1, -3);
        CHECK.due("without the signs", two.mean(), 65.0);
        GridTable three = Lists.taught(ABCS + "point d at 1,1;shape t of a b d;shape u of d a b;");
        CHECK.due("mean of three", three.mean(), 40.0);
        three.put(2, 0, 11);
        CHECK.due("mean of three", three.mean(), 130.0 / 3);
        GridTable half = Lists.taught("point a at 0,0;point b at 1,0;point c at 0,1;shape s of a b c;shape t of a b c;"
            + "point d at 0,2;shape u of a b d;shape v of a b d;shape w of a b d;shape z of a b d;");
        CHECK.due("mean that is no whole number", half.mean(), 10.0 / 6);
    }

    private static long next(long d, int... numbers) {
        long next = d;
        for (int x : numbers) {
            next = next * 31 + x;
        }
        return next;
    }

    private static void digestOfNothing() {
        CHECK.due("digest of a new table", new GridTable().digest(), next(811, 0, 0, 0, 0, 0, 0, 0, 0, 0));
        GridTable table = new GridTable();
        table.run();
        table.feed(1, 2, 3, 4, 5);
        CHECK.due("digest of a run and some bytes", table.digest(), next(811, 0, 0, 0, 0, 1, 0, 0, 0, 20));
    }

    private static void digest() {
        GridTable table = Lists.taught("point a at 0,0;point b at 10,0;point c at 0,-10;point d at 1,-1;shape s of a b c;"
            + "shape t of b d c;move a by 1,0 when x a=0;turn t round d;");
        table.carry(0);
        table.carry(0);
        table.feed(0, 0, 0, 0, 0);
        // a lies at 1, 0 now, so that the first step's test does not hold any more, and d inside of s.
        long d = next(811, 4, 2, 2, 1, 1, 90 + 80, 0, 1, 20);
        // Points a, b, c, d.
        d = next(d, 1, 0, 1, 0);
        d = next(d, 10, 0, 2, 0);
        d = next(d, 0, -10, 2, 0);
        d = next(d, 1, -1, 1, 1);
        // Each shape, its hull, and the points of this: c, b, a and c, b, d.
        d = next(d, 3, 90, -1, 0, 20, 0);
        d = next(d, 3, 90, 200);
        d = next(d, 2, 1, 0);
        d = next(d, 3, 80, 1, 0, 12, 1);
        d = next(d, 3, 80, 200);
        d = next(d, 2, 1, 3);
        // Both steps.
        d = next(d, 0, 0, -1, 0, 1);
        d = next(d, 1, 1, 3, 1, 0);
        CHECK.due("digest", table.digest(), d);
    }

    /** The digest of what the other calls tell, in the order of the document. */
    private static long digestOf(GridTable table) {
        long d = 811;
        for (int what = 0; what <= 8; what++) {
            d = next(d, table.count(what));
        }
        for (int i = 0; i < table.count(0); i++) {
            d = next(d, table.point(i, 0), table.point(i, 1), table.point(i, 2), table.point(i, 3));
        }
        for (int i = 0; i < table.count(1); i++) {
            for (int what = 0; what <= 5; what++) {
                d = next(d, table.shape(i, what));
            }
            d = next(d, table.hull(i, 0), table.hull(i, 1), table.hull(i, 2));
            for (int k = 0; k < table.hull(i, 0); k++) {
                d = next(d, table.hullCorner(i, k));
            }
        }
        for (int i = 0; i < table.count(2); i++) {
            for (int what = 0; what <= 4; what++) {
                d = next(d, table.step(i, what));
            }
        }
        return d;
    }

    private static void digestTellsAll() {
        GridTable table = Lists.taught("point a at -50,3;point b at 10,0;point c at 7,-10;point d at 30,40;point e at 2,1;"
            + "point f at -9,-9;shape s of a b c;shape star of a d f b e c;shape u of f e d;move a by 1,0 when x a<0;"
            + "turn star round d;flip u at e when inside e star or crosses u star>1;move e by x b,y c;");
        for (int i = 0; i < 20; i++) {
            CHECK.due("digest behind " + i + " runs", table.digest(), digestOf(table));
            table.run();
        }
        table.undo();
        CHECK.due("digest behind undo", table.digest(), digestOf(table));
        long before = table.digest();
        CHECK.due("digest changes nothing", table.digest(), before);
    }
}
