/** Promises 7 to 15, and what the document says of sides, areas, crossings and of lying inside. */
public final class ShapesTest {
    private static final Check CHECK = new Check("shapes");
    /** A square, a bow, a triangle, and points inside, on an edge, at a corner and outside. */
    private static final String SQUARE = "point a at 0,0;point b at 10,0;point c at 10,10;point d at 0,10;"
        + "point in at 4,5;point on at 5,0;point out at 11,5;"
        + "shape s of a b c d;shape bow of a c b d;shape tri of a d on;";

    private ShapesTest() {
    }

    public static void main(String[] args) {
        point();
        shape();
        signs();
        gridPoints();
        convex();
        corner();
        lies();
        liesOfRays();
        crosses();
        crossesOfTouching();
        crossesOfTwoEdges();
        hull();
        hullOfPlaces();
        nearest();
        enter();
        enterFar();
        farthestPlaces();
        CHECK.end();
    }

    private static void point() {
        GridTable table = Lists.taught(SQUARE);
        int[][] wanted = {{0, 0, 3, 0}, {10, 0, 2, 0}, {10, 10, 2, 0}, {0, 10, 3, 0}, {4, 5, 0, 2}, {5, 0, 1, 0},
            {11, 5, 0, 0}};
        for (int i = 0; i < wanted.length; i++) {
            for (int what = 0; what < 4; what++) {
                CHECK.due("point " + i + " " + what, table.point(i, what), wanted[i][what]);
            }
        }
        table.put(4, 2, 5);
        CHECK.due("inside of three: square, bow and triangle", table.point(4, 3), 3);
        CHECK.dueIndex("point(-1, 0)", () -> table.point(-1, 0));
        CHECK.dueIndex("point(7, 0)", () -> table.point(7, 0));
        CHECK.dueIndex("point(0, -1)", () -> table.point(0, -1));
        CHECK.dueIndex("point(0, 4)", () -> table.point(0, 4));
        CHECK.dueIndex("point of the greatest number", () -> table.point(Integer.MAX_VALUE, 0));
    }

    private static void dueShape(String list, int shape, int... wanted) {
        GridTable table = Lists.taught(list);
        for (int what = 0; what < wanted.length; what++) {
            CHECK.due("shape " + shape + " " + what + " of " + list, table.shape(shape, what), wanted[what]);
        }
    }

    private static void shape() {
        dueShape(SQUARE, 0, 4, 200, 1, 0, 40, 1);
        dueShape(SQUARE, 1, 4, 0, 0, 1, 40, 0);
        dueShape(SQUARE, 2, 3, 50, -1, 0, 20, 0);
        GridTable table = Lists.taught(SQUARE);
        CHECK.dueIndex("shape(-1, 0)", () -> table.shape(-1, 0));
        CHECK.dueIndex("shape(3, 0)", () -> table.shape(3, 0));
        CHECK.dueIndex("shape(0, -1)", () -> table.shape(0, -1));
        CHECK.dueIndex("shape(0, 6)", () -> table.shape(0, 6));
    }

    /** Points p0, p1 and so on at the places, and shape s of all of them in their order. */
    private static String list(int... places) {
        StringBuilder out = new StringBuilder();
        StringBuilder shape = new StringBuilder("shape s of");
        for (int i = 0; i + 1 < places.length; i += 2) {
            out.append("point p").append(i / 2).append(" at ").append(sign(places[i])).append(',')
                .append(sign(places[i + 1])).append(';');
            shape.append(" p").append(i / 2);
        }
        return out.append(shape).append(';').toString();
    }

    private static String sign(int number) {
        return number < 0 ? "-" + -number : "" + number;
    }

    private static void signs() {
        dueShape(list(0, 0, 4, 0, 0, 3), 0, 3, 12, 1);
        dueShape(list(0, 0, 0, 3, 4, 0), 0, 3, 12, -1);
        dueShape(list(-5, -5, -1, -5, -5, -2), 0, 3, 12, 1);
        dueShape(list(0, 0, 1, 1, 2, 2), 0, 3, 0, 0, 0, 4, 1);
        dueShape(list(3, 3, 3, 3, 3, 3), 0, 3, 0, 0, 0, 0, 1);
        // Both halves are of another size, so that the greater one gives the sign.
        dueShape(list(0, 0, 6, 6, 6, 0, 0, 2), 0, 4, 24, -1, 1, 6 + 6 + 2 + 2, 0);
    }

    private static void gridPoints() {
        dueShape(list(0, 0, 7, 0, 7, 5), 0, 3, 35, 1, 0, 7 + 5 + 1);
        dueShape(list(0, 0, 6, 9, -6, 3), 0, 3, 72, 1, 0, 3 + 6 + 3);
        dueShape(list(0, 0, -4, -6, 4, 0), 0, 3, 24, 1, 0, 2 + 2 + 4);
        dueShape(list(0, 0, 0, 0, 12, 18), 0, 3, 0, 0, 0, 0 + 6 + 6);
        dueShape(list(999, 999, -999, -999, 999, -999), 0, 3, 3992004, 1, 0, 1998 * 3);
        dueShape(list(-999, 998, 999, -999, 0, 0), 0, 3, 999, 1, 0, 1 + 999 + 1);
    }

    private static int isConvex(int... places) {
        return Lists.taught(list(places)).shape(0, 5);
    }

    private static void convex() {
        CHECK.due("to the left", isConvex(0, 0, 9, 0, 9, 9, 0, 9), 1);
        CHECK.due("to the right", isConvex(0, 0, 0, 9, 9, 9, 9, 0), 0);
        CHECK.due("with a straight corner", isConvex(0, 0, 5, 0, 9, 0, 9, 9, 0, 9), 1);
        CHECK.due("with a dent in the middle", isConvex(0, 0, 9, 0, 9, 9, 5, 5), 1);
        CHECK.due("with a deeper dent", isConvex(0, 0, 9, 0, 9, 9, 6, 5), 0);
        CHECK.due("with a dent at the first corner", isConvex(5, 1, 9, 0, 9, 9, 0, 0), 0);
        CHECK.due("with a dent at the last corner", isConvex(0, 0, 9, 0, 9, 9, 5, 1), 0);
        CHECK.due("with a dent at the second corner", isConvex(0, 0, 5, 1, 9, 0, 5, 9), 0);
        CHECK.due("with two corners at one place", isConvex(0, 0, 9, 0, 9, 0, 9, 9), 1);
        // A star with five corners goes round to the left twice.
        CHECK.due("of a star", isConvex(0, 10, -6, -8, 10, 3, -10, 3, 6, -8), 1);
        CHECK.due("on a line", isConvex(0, 0, 4, 0, 2, 0), 1);
    }

    private static void corner() {
        GridTable table = Lists.taught(SQUARE);
        int[][] wanted = {{0, 1, 2, 3}, {0, 2, 1, 3}, {0, 3, 5}};
        for (int shape = 0; shape < 3; shape++) {
            int of = shape;
            int size = wanted[shape].length;
            for (int i = 0; i < size; i++) {
                CHECK.due("corner " + shape + " " + i, table.corner(shape, i), wanted[shape][i]);
            }
            CHECK.dueIndex("corner behind the last one", () -> table.corner(of, size));
            CHECK.dueIndex("corner(.., -1)", () -> table.corner(of, -1));
        }
        CHECK.dueIndex("corner(-1, 0)", () -> table.corner(-1, 0));
        CHECK.dueIndex("corner(3, 0)", () -> table.corner(3, 0));
        CHECK.dueIndex("corner of the greatest number", () -> table.corner(0, Integer.MAX_VALUE));
        GridTable most = Lists.taught(list(0, 0, 1, 0, 2, 0, 3, 0, 4, 0, 5, 0, 6, 0, 7, 9));
        CHECK.due("the eighth corner", most.corner(0, 7), 7);
        CHECK.dueIndex("the ninth corner", () -> most.corner(0, 8));
    }

    private static void lies() {
        GridTable table = Lists.taught(SQUARE);
        int[] square = {0, 0, 0, 0, 1, 0, -1};
        int[] bow = {0, 0, 0, 0, 1, -1, -1};
        for (int i = 0; i < 7; i++) {
            CHECK.due("lies " + i + " in the square", table.lies(i, 0), square[i]);
            CHECK.due("lies " + i + " in the bow", table.lies(i, 1), bow[i]);
        }
        CHECK.dueIndex("lies(-1, 0)", () -> table.lies(-1, 0));
        CHECK.dueIndex("lies(7, 0)", () -> table.lies(7, 0));
        CHECK.dueIndex("lies(0, -1)", () -> table.lies(0, -1));
        CHECK.dueIndex("lies(0, 3)", () -> table.lies(0, 3));
    }

    /** What lies() answers of a place and a shape: the place is that of a point told behind the shape. */
    private static void dueLies(int x, int y, int wanted, int... places) {
        String text = list(places) + "point q at " + sign(x) + "," + sign(y) + ";";
        GridTable table = Lists.taught(text);
        CHECK.due("lies at " + x + " " + y + " of " + text, table.lies(places.length / 2, 0), wanted);
    }

    private static void liesOfRays() {
        // A ray to the right that goes through corners only counts those edges that it really passes.
        int[] diamond = {0, -5, 5, 0, 0, 5, -5, 0};
        dueLies(0, 0, 1, diamond);
        dueLies(-6, 0, -1, diamond);
        dueLies(6, 0, -1, diamond);
        dueLies(-5, 5, -1, diamond);
        dueLies(-5, -5, -1, diamond);
        dueLies(-5, 0, 0, diamond);
        dueLies(3, 2, 0, diamond);
        dueLies(3, 1, 1, diamond);
        dueLies(3, 3, -1, diamond);
        int[] other = {0, -5, -5, 0, 0, 5, 5, 0};
        dueLies(0, 0, 1, other);
        dueLies(-6, 0, -1, other);
        dueLies(3, 3, -1, other);
        dueLies(-3, 1, 1, other);
        // A W: the ray at the height of the middle top, and along a flat edge.
        int[] crown = {0, 0, 10, 0, 10, 6, 5, 3, 0, 6};
        dueLies(1, 3, 1, crown);
        dueLies(9, 3, 1, crown);
        dueLies(5, 3, 0, crown);
        dueLies(5, 4, -1, crown);
        dueLies(-1, 3, -1, crown);
        dueLies(-1, 0, -1, crown);
        dueLies(-1, 6, -1, crown);
        dueLies(11, 0, -1, crown);
        int[] stair = {0, 0, 8, 0, 8, 4, 4, 4, 4, 8, 0, 8};
        dueLies(2, 4, 1, stair);
        dueLies(6, 4, 0, stair);
        dueLies(9, 4, -1, stair);
        dueLies(-2, 4, -1, stair);
        dueLies(6, 6, -1, stair);
        dueLies(4, 8, 0, stair);
        // On the line of an edge, but beyond its ends.
        dueLies(9, 0, -1, 0, 0, 8, 0, 0, 8);
        dueLies(-1, 0, -1, 0, 0, 8, 0, 0, 8);
        dueLies(0, 9, -1, 0, 0, 8, 0, 0, 8);
        dueLies(9, 9, -1, 0, 0, 8, 8, 0, 16);
        // Where a star goes round twice its middle is not inside.
        int[] star = {0, 10, -6, -8, 10, 3, -10, 3, 6, -8};
        dueLies(0, 0, -1, star);
        dueLies(0, 5, 1, star);
        // Shapes without an area.
        dueLies(2, 0, 0, 0, 0, 4, 0, 2, 0);
        dueLies(2, 1, -1, 0, 0, 4, 0, 2, 0);
        dueLies(3, 3, 0, 3, 3, 3, 3, 3, 3);
        dueLies(3, 4, -1, 3, 3, 3, 3, 3, 3);
        dueLies(2, 3, -1, 3, 3, 3, 3, 3, 3);
    }

    private static void crosses() {
        GridTable table = Lists.taught(SQUARE);
        int[][] wanted = {{0, 0, 0}, {0, 1, 1}, {0, 1, 0}};
        for (int a = 0; a < 3; a++) {
            for (int b = 0; b < 3; b++) {
                CHECK.due("crosses " + a + " " + b, table.crosses(a, b), wanted[a][b]);
            }
        }
        CHECK.dueIndex("crosses(-1, 0)", () -> table.crosses(-1, 0));
        CHECK.dueIndex("crosses(0, -1)", () -> table.crosses(0, -1));
        CHECK.dueIndex("crosses(3, 0)", () -> table.crosses(3, 0));
        CHECK.dueIndex("crosses(0, 3)", () -> table.crosses(0, 3));
        GridTable star = Lists.taught(list(0, 10, -6, -8, 10, 3, -10, 3, 6, -8)
            + "point q at -20,0;point r at 20,0;point t at 20,1;shape l of q r t;");
        CHECK.due("a star with itself", star.crosses(0, 0), 5);
        CHECK.due("a star with itself", star.shape(0, 3), 5);
        CHECK.due("a star and two long edges", star.crosses(0, 1), 8);
        CHECK.due("the same round", star.crosses(1, 0), 8);
        CHECK.due("all crossings", star.count(6), 13);
    }

    /** What two triangles have in crossings: the first one lies at 0,0 10,0 0,10. */
    private static int crossings(int... places) {
        return Lists.taught("point a at 0,0;point b at 10,0;point c at 0,10;shape t of a b c;"
            + list(places)).crosses(0, 1);
    }

    private static void crossesOfTouching() {
        CHECK.due("right through", crossings(-5, 2, 20, 2, 20, 3), 4);
        CHECK.due("one corner inside", crossings(2, 2, -5, 2, -5, 3), 2);
        CHECK.due("one corner on an edge", crossings(0, 2, -5, 2, -5, 3), 0);
        CHECK.due("through a corner, and beside it", crossings(-5, -5, 20, 20, 21, 19), 1 + 2);
        CHECK.due("along an edge", crossings(-5, 0, 20, 0, 20, -3), 0);
        CHECK.due("the same triangle", crossings(0, 0, 10, 0, 0, 10), 0);
        CHECK.due("far away", crossings(20, 20, 30, 20, 20, 30), 0);
        CHECK.due("on both sides of the line, but beyond the edge", crossings(20, -5, 20, 5, 30, 0), 0);
        CHECK.due("the edge ends ahead of the line", crossings(4, -9, 4, -2, 5, -9), 0);
        CHECK.due("all at one place on an edge", crossings(0, 5, 0, 5, 0, 5), 0);
        CHECK.due("a turned triangle", crossings(-2, 7, 7, 7, 3, -4), 6);
    }

    /**
     * Two shapes that go along an edge and back, so that each pair of directions counts once: 4 if both edges cross.
     */
    private static void dueEdges(int wanted, int... ends) {
        StringBuilder text = new StringBuilder();
        for (int i = 0; i < 8; i += 2) {
            text.append("point p").append(i).append(" at ").append(sign(ends[i])).append(',').append(sign(ends[i + 1]))
                .append(";point p").append(i + 1).append(" at x p").append(i).append(",y p").append(i).append(';');
        }
        GridTable table = Lists.taught(text + "shape s of p0 p2 p1;shape t of p4 p6 p5;");
        CHECK.due("two edges of " + text, table.crosses(0, 1), wanted);
        CHECK.due("the same round of " + text, table.crosses(1, 0), wanted);
        CHECK.due("an edge and back of " + text, table.crosses(0, 0), 0);
    }

    private static void crossesOfTwoEdges() {
        // All four ends are as near to the other edge's line as they can be.
        dueEdges(4, 0, 0, 3, 2, 1, 1, 2, 1);
        dueEdges(4, 0, 0, 4, 0, 2, -1, 2, 5);
        // One end lies on the other edge, or on its line.
        dueEdges(0, 0, 0, 4, 0, 2, 0, 2, 5);
        dueEdges(0, 0, 0, 4, 0, 2, 0, 2, -5);
        dueEdges(0, 0, 0, 0, 4, 0, 2, 5, 2);
        dueEdges(0, 0, 0, 0, 4, 0, 2, -5, 2);
        dueEdges(0, 0, 0, 4, 0, 9, 0, 2, 5);
        dueEdges(0, 0, 0, 4, 4, 2, 2, 0, 4);
        // The edge would have to be longer by 1.
        dueEdges(0, 0, 0, 4, 0, 2, 1, 2, 5);
        dueEdges(0, 0, 0, 4, 0, 5, -3, 5, 3);
        // Ends meet, or both lie on one line, or have no length.
        dueEdges(0, 0, 0, 4, 0, 4, 0, 7, 5);
        dueEdges(0, 0, 0, 4, 0, 2, 0, 9, 0);
        dueEdges(0, 0, 0, 4, 0, 0, 0, 4, 0);
        dueEdges(0, 0, 0, 4, 0, 2, 0, 2, 0);
        dueEdges(0, 0, 0, 4, 0, 0, 3, 4, 3);
        dueEdges(4, -999, -999, 999, 999, -999, 999, 999, -999);
        dueEdges(4, -999, -998, 999, 999, -998, -998, 998, 999);
    }

    private static void dueHull(String text, int area, int widest, int... corners) {
        GridTable table = Lists.taught(text);
        CHECK.due("hull 0 of " + text, table.hull(0, 0), corners.length);
        CHECK.due("hull 1 of " + text, table.hull(0, 1), area);
        CHECK.due("hull 2 of " + text, table.hull(0, 2), widest);
        for (int i = 0; i < corners.length; i++) {
            CHECK.due("hullCorner " + i + " of " + text, table.hullCorner(0, i), corners[i]);
        }
        CHECK.dueIndex("hullCorner behind the last one", () -> table.hullCorner(0, corners.length));
        CHECK.dueIndex("hullCorner(0, -1)", () -> table.hullCorner(0, -1));
        CHECK.dueIndex("hullCorner(-1, 0)", () -> table.hullCorner(-1, 0));
        CHECK.dueIndex("hullCorner(1, 0)", () -> table.hullCorner(1, 0));
        CHECK.dueIndex("hull(0, -1)", () -> table.hull(0, -1));
        CHECK.dueIndex("hull(0, 3)", () -> table.hull(0, 3));
        CHECK.dueIndex("hull(-1, 0)", () -> table.hull(-1, 0));
        CHECK.dueIndex("hull(1, 0)", () -> table.hull(1, 0));
    }

    private static void hull() {
        dueHull(list(0, 0, 10, 0, 10, 10, 0, 10), 200, 200, 0, 1, 2, 3);
        dueHull(list(10, 10, 0, 10, 0, 0, 10, 0), 200, 200, 2, 3, 0, 1);
        dueHull(list(0, 10, 10, 10, 10, 0, 0, 0), 200, 200, 3, 2, 1, 0);
        dueHull(list(0, 0, 10, 0, 10, 10, 5, 5), 100, 200, 0, 1, 2);
        dueHull(list(5, 1, 0, 0, 10, 0, 5, 9, 4, 3), 90, 106, 1, 2, 3);
        dueHull(list(0, 0, 1, 0, 1, 1, 0, 1), 2, 2, 0, 1, 2, 3);
        dueHull(list(10, 10, 10, 20, 5, 15), 50, 100, 2, 0, 1);
        dueHull(list(5, 0, 0, 9, 9, 9), 81, 106, 1, 0, 2);
        dueHull(list(3, 3, 3, 1, 9, 2), 12, 37, 1, 2, 0);
        dueHull(list(-999, -999, 999, -999, 999, 999, -999, 999), 2 * 1998 * 1998, 2 * 1998 * 1998, 0, 1, 2, 3);
        dueHull(list(1, 0, 0, 0, 2, 0, 0, 1, 0, 2), 4, 8, 1, 2, 4);
        // Corners that lie between two others, on each edge.
        dueHull(list(5, 0, 10, 0, 10, 5, 10, 10, 5, 10, 0, 10, 0, 5, 0, 0), 200, 200, 7, 1, 3, 5);
        dueHull(list(0, 3, 0, 7, 0, 5, 1, 9, 2, 2), 17, 50, 0, 4, 3, 1);
        dueHull(list(-3, 0, 0, -3, 3, 0, 0, 3, 1, 1, -1, -1, 0, 0, 1, -2), 36, 36, 0, 1, 2, 3);
        dueHull(list(0, 0, 4, -1, 6, 1, 7, 4, 6, 7, 3, 8, 0, 7, -1, 3), 107, 85, 7, 0, 1, 2, 3, 4, 5, 6);
    }

    private static void hullOfPlaces() {
        dueHull(list(3, 3, 3, 3, 3, 3), 0, 0, 0);
        dueHull(list(0, 0, 4, 4, 2, 2), 0, 32, 0, 1);
        dueHull(list(4, 4, 2, 2, 0, 0), 0, 32, 2, 0);
        dueHull(list(5, 1, 5, 9, 5, 1, 5, 9, 5, 5), 0, 64, 0, 1);
        dueHull(list(7, 2, 1, 2, 7, 2, 1, 2), 0, 36, 1, 0);
        dueHull(list(0, 9, 0, 0, 9, 0, 0, 0, 9, 0, 0, 9), 81, 162, 1, 2, 0);
        // The point with the smallest number, though it is not the first corner at the place.
        String text = "point a at 0,0;point b at 0,0;point c at 9,0;point d at 9,0;point e at 0,9;point f at 0,9;"
            + "shape s of f b d e a c;";
        dueHull(text, 81, 162, 0, 2, 4);
        dueHull("point a at 0,0;point b at 0,0;point c at 0,0;shape s of c b a;", 0, 0, 0);
        dueHull("point a at 1,1;point b at 0,0;point c at 0,0;point d at 1,1;shape s of d c b a;", 0, 2, 1, 0);
    }

    private static void nearest() {
        GridTable table = Lists.taught("point a at 0,0;point b at 10,0;point c at 4,3;point d at 10,0;point e at -999,999;");
        CHECK.due("at a point", table.nearest(10, 0), 1);
        CHECK.due("at the first point", table.nearest(0, 0), 0);
        CHECK.due("as far from a as from b", table.nearest(5, -90), 0);
        CHECK.due("nearer to b", table.nearest(6, -90), 1);
        CHECK.due("at the third point", table.nearest(4, 4), 2);
        CHECK.due("the corner", table.nearest(-999, 999), 4);
        CHECK.due("another corner", table.nearest(999, -999), 1);
        CHECK.due("all edges of the grid", table.nearest(-999, -999) + table.nearest(999, 999), 1);
        // It is the straight way that counts: 3 and 3 is nearer than 0 and 5.
        GridTable straight = Lists.taught("point a at 0,5;point b at 3,3;");
        CHECK.due("the straight way", straight.nearest(0, 0), 1);
        GridTable far = Lists.taught("point a at 999,999;");
        CHECK.due("the farthest one", far.nearest(-999, -999), 0);
        for (GridTable each : new GridTable[] {table, new GridTable()}) {
            CHECK.dueArgument("nearest(1000, 0)", () -> each.nearest(1000, 0));
            CHECK.dueArgument("nearest(-1000, 0)", () -> each.nearest(-1000, 0));
            CHECK.dueArgument("nearest(0, 1000)", () -> each.nearest(0, 1000));
            CHECK.dueArgument("nearest(0, -1000)", () -> each.nearest(0, -1000));
            CHECK.dueArgument("nearest of the least number", () -> each.nearest(Integer.MIN_VALUE, 0));
        }
        CHECK.due("without points", new GridTable().nearest(-999, 999), -1);
    }

    private static void dueEnter(int x, int y, int wanted) {
        GridTable table = Lists.taught("point a at 0,0;point b at 20,0;point c at 20,20;point d at 0,20;point q at "
            + sign(x) + "," + sign(y) + ";shape s of a b c d;");
        String all = Lists.all(table);
        CHECK.due("enter from " + x + " " + y, table.enter(4, 0), wanted);
        CHECK.due("nothing is changed", Lists.all(table).equals(all) ? 1 : 0, 1);
    }

    private static void enter() {
        dueEnter(10, 10, 0);
        dueEnter(1, 1, 0);
        dueEnter(0, 10, 1);
        dueEnter(20, 10, 1);
        dueEnter(10, 0, 1);
        dueEnter(10, 20, 1);
        dueEnter(0, 0, 2);
        dueEnter(20, 20, 2);
        dueEnter(-1, 10, 2);
        dueEnter(-11, 10, 12);
        dueEnter(-12, 10, -1);
        dueEnter(31, 10, 12);
        dueEnter(32, 10, -1);
        dueEnter(10, -11, 12);
        dueEnter(10, -12, -1);
        dueEnter(10, 31, 12);
        dueEnter(10, 32, -1);
        dueEnter(-5, -5, 12);
        dueEnter(-6, -5, -1);
        dueEnter(25, -5, 12);
        dueEnter(26, -5, -1);
        dueEnter(25, 25, 12);
        dueEnter(-5, 25, 12);
        dueEnter(-5, 26, -1);
        GridTable table = Lists.taught(SQUARE);
        CHECK.due("a corner of the shape itself", table.enter(0, 0), 2);
        CHECK.due("the shape stays where it is", table.enter(2, 0), 2);
        CHECK.dueIndex("enter(-1, 0)", () -> table.enter(-1, 0));
        CHECK.dueIndex("enter(7, 0)", () -> table.enter(7, 0));
        CHECK.dueIndex("enter(0, -1)", () -> table.enter(0, -1));
        CHECK.dueIndex("enter(0, 3)", () -> table.enter(0, 3));
    }

    private static void enterFar() {
        // There is no grid point inside, however near the shape is.
        GridTable thin = Lists.taught(list(0, 0, 1, 0, 0, 1));
        CHECK.due("no place inside", thin.enter(0, 0), -1);
        GridTable flat = Lists.taught(list(0, 0, 9, 0, 4, 0));
        CHECK.due("a flat shape", flat.enter(2, 0), -1);
        // The nearest place inside lies slantwise, and those straight ahead lie outside.
        GridTable slant = Lists.taught(list(4, 4, 6, 4, 6, 6, 4, 6) + "point q at 0,0;point r at -1,-1;point t at -2,-1;");
        CHECK.due("slantwise", slant.enter(4, 0), 10);
        CHECK.due("slantwise", slant.enter(5, 0), 12);
        CHECK.due("slantwise", slant.enter(6, 0), -1);
        // A corner at the edge of the grid.
        GridTable edge = Lists.taught(list(999, 999, 990, 999, 999, 990));
        CHECK.due("at the edge of the grid", edge.enter(0, 0), 2);
        // Nothing but the inner place counts, not the nearer edge.
        GridTable ring = Lists.taught(list(0, 10, -6, -8, 10, 3, -10, 3, 6, -8) + "point q at 0,0;");
        CHECK.due("out of the middle of a star", ring.enter(5, 0), 4);
    }

    private static void farthestPlaces() {
        GridTable table = Lists.taught("point a at -999,-999;point b at 999,-999;point c at 999,999;point d at -999,999;"
            + "point e at 0,0;shape s of a b c d;shape x1 of a c b d;");
        CHECK.due("the greatest area", table.shape(0, 1), 2 * 1998 * 1998);
        CHECK.due("its hull", table.hull(1, 1), 2 * 1998 * 1998);
        CHECK.due("the greatest square", table.hull(0, 2), 2 * 1998 * 1998);
        CHECK.due("the middle", table.lies(4, 0), 1);
        CHECK.due("where the edges cross", table.lies(4, 1), 0);
        CHECK.due("they cross", table.crosses(1, 1), 1);
        CHECK.due("grid points", table.shape(0, 4), 4 * 1998);
    }
}
