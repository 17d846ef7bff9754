import java.util.ArrayList;
import java.util.List;

/**
 * Promises 6 to 15 on shapes of any form, each answer compared with one that is found in another way: by going over
 * all places of an edge, by rays up instead of aside, by parts of edges instead of sides, by all triangles.
 */
public final class GeometryTest {
    private static final Check CHECK = new Check("geometry");
    private static final int POINTS = 11;
    private static final int SHAPES = 4;

    private final Dice dice;
    private final int[] xs = new int[POINTS];
    private final int[] ys = new int[POINTS];
    private final int[][] shapes = new int[SHAPES][];
    private final GridTable table;

    private GeometryTest(int seed, int reach, int middle) {
        dice = new Dice(seed);
        StringBuilder list = new StringBuilder();
        for (int i = 0; i < POINTS; i++) {
            xs[i] = Math.max(-999, Math.min(999, middle + dice.from(-reach, reach)));
            ys[i] = Math.max(-999, Math.min(999, dice.from(-reach, reach) - middle));
            list.append("point p").append(i).append(" at ").append(xs[i] + 1000).append("-1000,")
                .append(ys[i] + 1000).append("-1000;");
        }
        for (int i = 0; i < SHAPES; i++) {
            shapes[i] = corners();
            list.append("shape s").append(i).append(" of");
            for (int point : shapes[i]) {
                list.append(" p").append(point);
            }
            list.append(';');
        }
        table = Lists.taught(list.toString());
    }

    public static void main(String[] args) {
        for (int i = 0; i < 600; i++) {
            int reach = new int[] {1, 2, 3, 5, 9, 40, 999}[i % 7];
            GeometryTest test = new GeometryTest(i, reach, i % 5 == 0 ? 997 : 0);
            test.points();
            for (int shape = 0; shape < SHAPES; shape++) {
                test.shape(shape);
                test.hull(shape);
                test.enter(shape);
            }
            test.crossings();
            test.nearest(reach);
        }
        CHECK.end();
    }

    private int[] corners() {
        List<Integer> rest = new ArrayList<>();
        for (int i = 0; i < POINTS; i++) {
            rest.add(i);
        }
        int[] out = new int[dice.from(3, 8)];
        for (int i = 0; i < out.length; i++) {
            out[i] = rest.remove(dice.below(rest.size()));
        }
        return out;
    }

    private int x(int shape, int corner) {
        return xs[shapes[shape][corner % shapes[shape].length]];
    }

    private int y(int shape, int corner) {
        return ys[shapes[shape][corner % shapes[shape].length]];
    }

    /** How many equal parts an edge has, of which all ends are places of the grid, and each such place is one. */
    private int parts(int shape, int edge) {
        int dx = x(shape, edge + 1) - x(shape, edge);
        int dy = y(shape, edge + 1) - y(shape, edge);
        int most = Math.max(Math.abs(dx), Math.abs(dy));
        int parts = 0;
        for (int k = 0; k < most; k++) {
            parts += k * dx % most == 0 && k * dy % most == 0 ? 1 : 0;
        }
        return parts;
    }

    private boolean isOnEdge(int shape, int edge, int px, int py) {
        int parts = parts(shape, edge);
        for (int k = 0; k < parts; k++) {
            if (x(shape, edge) + (x(shape, edge + 1) - x(shape, edge)) / parts * k == px
                    && y(shape, edge) + (y(shape, edge + 1) - y(shape, edge)) / parts * k == py) {
                return true;
            }
        }
        return px == x(shape, edge + 1) && py == y(shape, edge + 1);
    }

    /** 1 inside, 0 on an edge, -1 otherwise: whether a ray up passes an odd number of edges. */
    private int where(int shape, int px, int py) {
        int passed = 0;
        for (int i = 0; i < shapes[shape].length; i++) {
            if (isOnEdge(shape, i, px, py)) {
                return 0;
            }
            long ax = x(shape, i) - px;
            long ay = y(shape, i) - py;
            long bx = x(shape, i + 1) - px;
            long by = y(shape, i + 1) - py;
            if (ax <= 0 != bx <= 0) {
                // The height of the edge above the place, times the width of the edge.
                long height = ay * (bx - ax) - ax * (by - ay);
                passed += height > 0 == bx > ax ? 1 : 0;
            }
        }
        return passed % 2 == 1 ? 1 : -1;
    }

    private void points() {
        int insideOfSome = 0;
        for (int i = 0; i < POINTS; i++) {
            int of = 0;
            int inside = 0;
            for (int shape = 0; shape < SHAPES; shape++) {
                for (int corner : shapes[shape]) {
                    of += corner == i ? 1 : 0;
                }
                int where = where(shape, xs[i], ys[i]);
                inside += where == 1 ? 1 : 0;
                CHECK.due("lies", table.lies(i, shape), where);
            }
            insideOfSome += inside > 0 ? 1 : 0;
            CHECK.due("x", table.point(i, 0), xs[i]);
            CHECK.due("y", table.point(i, 1), ys[i]);
            CHECK.due("shapes of a point", table.point(i, 2), of);
            CHECK.due("shapes around a point", table.point(i, 3), inside);
        }
        CHECK.due("points inside", table.count(7), insideOfSome);
    }

    private void shape(int shape) {
        int size = shapes[shape].length;
        long area = 0;
        int gridPoints = 0;
        int widest = 0;
        boolean isRight = false;
        for (int i = 0; i < size; i++) {
            // The strips between the edges and the lowest line.
            area += (long) (x(shape, i) - x(shape, i + 1)) * (y(shape, i) + y(shape, i + 1) + 2000);
            gridPoints += parts(shape, i);
            isRight = isRight || side(shape, i) < 0;
            for (int k = 0; k < size; k++) {
                widest = Math.max(widest, square(shapes[shape][i], x(shape, k), y(shape, k)));
            }
            CHECK.due("corner", table.corner(shape, i), shapes[shape][i]);
        }
        CHECK.due("corners", table.shape(shape, 0), size);
        CHECK.due("area", table.shape(shape, 1), Math.abs(area));
        CHECK.due("round", table.shape(shape, 2), Long.signum(area));
        CHECK.due("grid points", table.shape(shape, 4), gridPoints);
        CHECK.due("never right", table.shape(shape, 5), isRight ? 0 : 1);
        CHECK.due("widest", table.hull(shape, 2), widest);
    }

    /** On which side of three corners the last one lies: the area of their triangle, twice. */
    private long side(int shape, int i) {
        return triangle(shapes[shape][i], shapes[shape][(i + 1) % shapes[shape].length],
            shapes[shape][(i + 2) % shapes[shape].length]);
    }

    private long triangle(int a, int b, int c) {
        return (long) xs[a] * ys[b] - (long) xs[b] * ys[a] + (long) xs[b] * ys[c] - (long) xs[c] * ys[b]
            + (long) xs[c] * ys[a] - (long) xs[a] * ys[c];
    }

    private int square(int point, int px, int py) {
        return (xs[point] - px) * (xs[point] - px) + (ys[point] - py) * (ys[point] - py);
    }

    private boolean isSamePlace(int a, int b) {
        return xs[a] == xs[b] && ys[a] == ys[b];
    }

    /** A corner of the hull: of no other place, between no two others, and in no triangle of others. */
    private boolean isOfHull(int shape, int point) {
        for (int a : shapes[shape]) {
            if (isSamePlace(a, point)) {
                if (a < point) {
                    return false;
                }
                continue;
            }
            for (int b : shapes[shape]) {
                if (isSamePlace(b, point)) {
                    continue;
                }
                if (triangle(a, b, point) == 0 && isBetween(point, a, b)) {
                    return false;
                }
                for (int c : shapes[shape]) {
                    if (!isSamePlace(c, point) && triangle(a, b, c) > 0 && triangle(a, b, point) >= 0
                            && triangle(b, c, point) >= 0 && triangle(c, a, point) >= 0) {
                        return false;
                    }
                }
            }
        }
        return true;
    }

    private boolean isBetween(int point, int a, int b) {
        return (xs[point] - xs[a]) * (xs[point] - xs[b]) <= 0 && (ys[point] - ys[a]) * (ys[point] - ys[b]) <= 0;
    }

    private void hull(int shape) {
        int due = 0;
        for (int corner : shapes[shape]) {
            due += isOfHull(shape, corner) ? 1 : 0;
        }
        int size = table.hull(shape, 0);
        CHECK.due("corners of the hull", size, due);
        int first = table.hullCorner(shape, 0);
        long area = 0;
        for (int i = 0; i < size; i++) {
            int a = table.hullCorner(shape, i);
            int b = table.hullCorner(shape, (i + 1) % size);
            CHECK.due("whether it is of the hull", isOfHull(shape, a) ? 1 : 0, 1);
            boolean isBehind = i == 0 || xs[a] > xs[first] || xs[a] == xs[first] && ys[a] > ys[first];
            CHECK.due("whether the first one is ahead", isBehind ? 1 : 0, 1);
            for (int corner : shapes[shape]) {
                CHECK.due("whether all lie left", triangle(a, b, corner) >= 0 ? 1 : 0, 1);
            }
            area += (long) xs[a] * ys[b] - (long) xs[b] * ys[a];
        }
        CHECK.due("area of the hull", table.hull(shape, 1), area);
    }

    /** Whether two edges meet within both: how far along each one they do is between 0 and 1. */
    private boolean cross(int one, int i, int other, int k) {
        long ax = x(one, i + 1) - x(one, i);
        long ay = y(one, i + 1) - y(one, i);
        long bx = x(other, k + 1) - x(other, k);
        long by = y(other, k + 1) - y(other, k);
        long cx = x(other, k) - x(one, i);
        long cy = y(other, k) - y(one, i);
        long whole = ax * by - ay * bx;
        long alongOne = (cx * by - cy * bx) * Long.signum(whole);
        long alongOther = (cx * ay - cy * ax) * Long.signum(whole);
        return alongOne > 0 && alongOne < Math.abs(whole) && alongOther > 0 && alongOther < Math.abs(whole);
    }

    private void crossings() {
        int all = 0;
        for (int a = 0; a < SHAPES; a++) {
            for (int b = 0; b < SHAPES; b++) {
                int found = 0;
                for (int i = 0; i < shapes[a].length; i++) {
                    for (int k = 0; k < shapes[b].length; k++) {
                        found += cross(a, i, b, k) && (a != b || i < k) ? 1 : 0;
                    }
                }
                CHECK.due("crosses", table.crosses(a, b), found);
                all += a <= b ? found : 0;
            }
            CHECK.due("crosses itself", table.shape(a, 3), table.crosses(a, a));
        }
        CHECK.due("all crossings", table.count(6), all);
    }

    private void nearest(int reach) {
        for (int n = 0; n < 5; n++) {
            int px = Math.max(-999, Math.min(999, xs[n] + dice.from(-reach, reach)));
            int py = Math.max(-999, Math.min(999, ys[n] + dice.from(-reach, reach)));
            int due = 0;
            for (int i = POINTS - 1; i >= 0; i--) {
                due = square(i, px, py) <= square(due, px, py) ? i : due;
            }
            CHECK.due("nearest", table.nearest(px, py), due);
        }
    }

    private void enter(int shape) {
        int point = dice.below(POINTS);
        int least = 13;
        for (int dx = -12; dx <= 12; dx++) {
            for (int dy = -12; dy <= 12; dy++) {
                int way = Math.abs(dx) + Math.abs(dy);
                if (way < least && where(shape, xs[point] + dx, ys[point] + dy) == 1) {
                    least = way;
                }
            }
        }
        CHECK.due("enter", table.enter(point, shape), least > 12 ? -1 : least);
    }
}
