import java.util.ArrayList;
import java.util.List;

/** Makes the tokens of lists, of which most names are right, but some are not. */
final class ListMaker {
    private final Dice dice;
    private final List<String> tokens = new ArrayList<>();
    private final List<String> points = new ArrayList<>();
    private final List<String> shapes = new ArrayList<>();
    /** Of so many names one is wrong. */
    private final int rarity;

    ListMaker(Dice dice, int rarity) {
        this.dice = dice;
        this.rarity = rarity;
    }

    List<String> make(int pointLines, int shapeLines, int steps) {
        int[] left = {pointLines, shapeLines, steps};
        for (int n = pointLines + shapeLines + steps; n > 0; n--) {
            // The first three lines are points, as no shape can be told without them.
            int sort = pointLines - left[0] < 3 && left[0] > 0 ? 0 : dice.below(3);
            for (int i = 0; i < 3 && left[sort] == 0; i++) {
                sort = (sort + 1) % 3;
            }
            left[sort]--;
            line(sort);
        }
        return tokens;
    }

    private void line(int sort) {
        if (sort == 0) {
            String name = newName(points);
            put("point", name, "at");
            sum(2);
            put(",");
            sum(2);
            points.add(name);
        } else if (sort == 1) {
            String name = newName(shapes);
            put("shape", name, "of");
            corners();
            shapes.add(name);
        } else {
            step();
        }
        put(";");
    }

    private void corners() {
        boolean isTooLong = dice.oneOf(rarity) && points.size() > 8;
        int size = isTooLong ? 9 : dice.from(3, Math.max(3, Math.min(8, points.size())));
        int start = dice.below(16);
        for (int i = 0; i < size; i++) {
            put(points.isEmpty() || dice.oneOf(3 * rarity) ? name(points) : points.get((start + i) % points.size()));
        }
    }

    private void step() {
        int sort = shapes.isEmpty() ? 0 : dice.below(3);
        if (sort == 0) {
            put("move", name(points), "by");
            sum(2);
            put(",");
            sum(1);
        } else if (sort == 1) {
            put("turn", name(shapes), "round", name(points));
        } else {
            put("flip", name(shapes), "at", name(points));
        }
        if (dice.oneOf(2)) {
            put("when");
            test(2);
        }
    }

    private void test(int deep) {
        switch (shapes.isEmpty() ? 0 : dice.below(deep > 0 ? 6 : 2)) {
            case 0:
                sum(deep);
                put(dice.pick("<", ">", "=", "<=", ">="));
                sum(deep);
                break;
            case 1:
                put("inside", name(points), name(shapes));
                break;
            case 2:
                put("not");
                test(deep - 1);
                break;
            case 3:
                put("[");
                test(deep - 1);
                put("]");
                break;
            default:
                test(deep - 1);
                put(dice.pick("and", "or"));
                test(deep - 1);
                break;
        }
    }

    private void sum(int deep) {
        switch (dice.below(deep > 0 ? 9 : 5)) {
            case 0:
            case 1:
                put("" + dice.below(1000));
                break;
            case 2:
                put(points.isEmpty() ? List.of("0") : List.of(dice.pick("x", "y"), name(points)));
                break;
            case 3:
                put(shapes.isEmpty() ? List.of("1") : List.of("area", name(shapes)));
                break;
            case 4:
                put(shapes.isEmpty() ? List.of("2") : List.of("crosses", name(shapes), name(shapes)));
                break;
            case 5:
                put("-");
                sum(deep - 1);
                break;
            case 6:
                put("(");
                sum(deep - 1);
                put(")");
                break;
            case 7:
                put(dice.pick("min", "max"), "(");
                sum(deep - 1);
                put(",");
                sum(deep - 1);
                put(")");
                break;
            default:
                sum(deep - 1);
                put(dice.pick("+", "-", "*", "/"));
                sum(deep - 1);
                break;
        }
    }

    /** A name told ahead, or seldom any other one. */
    private String name(List<String> told) {
        if (told.isEmpty() || dice.oneOf(rarity)) {
            return dice.pick("p1", "s1", "q", "p" + dice.below(20), "s" + dice.below(10));
        }
        return told.get(dice.below(told.size()));
    }

    private String newName(List<String> told) {
        if (!told.isEmpty() && dice.oneOf(rarity)) {
            return told.get(dice.below(told.size()));
        }
        // Both sorts take some of the same names.
        return dice.pick("p", told == points ? "p" : "s") + told.size();
    }

    private void put(String... more) {
        put(List.of(more));
    }

    private void put(List<String> more) {
        tokens.addAll(more);
    }
}
