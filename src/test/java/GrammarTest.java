import java.util.ArrayList;
import java.util.List;

/**
 * Promises 4 and 5: the errors of lists, compared with what the grammar of the document says when it is read in another
 * way, and with a look at the names from left to right.
 */
public final class GrammarTest {
    private static final Check CHECK = new Check("grammar");
    private static final Grammar GRAMMAR = new Grammar();
    private static final String[] ANY = {"point", "at", "shape", "of", "move", "by", "turn", "round", "flip", "when",
        "x", "y", "area", "crosses", "inside", "not", "and", "or", "min", "max", "(", ")", "[", "]", ";", ",", "+", "-", "*",
        "/", "<", ">", "=", "<=", ">=", "p1", "s0", "q", "7", "123456", "1234567", "abcdefghijk", "?", "#", "N", "A"};
    private static final int[] SEEN = new int[6];

    private GrammarTest() {
    }

    public static void main(String[] args) {
        everyBeginning();
        everyTokenInEveryPlace();
        for (int i = 0; i < 1200; i++) {
            lists(new Dice(i));
        }
        longLists();
        for (int error = 0; error <= 5; error++) {
            CHECK.due("whether many lists have error " + error, SEEN[error] > 40 ? 1 : 0, 1);
        }
        CHECK.end();
    }

    private static final String RICH = "point a at 1 , - 2 ; point b at x a , ( y a + 3 ) * 2 / 1 - 4 ;"
        + " point c at min ( 1 , 2 ) , max ( - 3 , 4 ) ; shape s of a b c ; shape t of c b a ;"
        + " move a by area s , crosses s t when not inside a s ;"
        + " turn s round b when [ 1 < 2 or 2 > 1 ] and 1 = 1 ; flip t at c when 1 <= 2 and 2 >= x a or not not 1 = 1 ;";

    /** A list that ends too early has error 1 at its end, but where a line ends it is whole. */
    private static void everyBeginning() {
        List<String> tokens = List.of(RICH.split(" "));
        for (int n = 0; n <= tokens.size(); n++) {
            List<String> some = tokens.subList(0, n);
            boolean isWhole = n == 0 || some.get(n - 1).equals(";");
            CHECK.due("the first " + n + " tokens by the grammar", GRAMMAR.firstWrong(some), isWhole ? -1 : n);
            compare(some, new Dice(n));
        }
    }

    private static void everyTokenInEveryPlace() {
        List<String> tokens = List.of(RICH.split(" "));
        for (int i = 0; i < tokens.size(); i++) {
            for (int k = 0; k < ANY.length; k++) {
                List<String> other = new ArrayList<>(tokens.subList(0, i));
                other.add(ANY[k]);
                int from = (i + k) % 2 == 0 ? i + 1 : i;
                other.addAll(tokens.subList(from, Math.min(tokens.size(), from + 3)));
                compare(other, new Dice(i * 100 + k));
            }
        }
    }

    private static void lists(Dice dice) {
        int rarity = dice.oneOf(3) ? 25 : 200;
        int points = dice.oneOf(6) ? 17 : dice.from(1, 12);
        int shapes = dice.oneOf(6) ? 9 : dice.below(4);
        int steps = dice.oneOf(6) ? 21 : dice.below(6);
        List<String> tokens = new ArrayList<>(new ListMaker(dice, rarity).make(points, shapes, steps));
        if (dice.oneOf(3)) {
            spoil(tokens, dice);
        }
        compare(tokens, dice);
    }

    private static void spoil(List<String> tokens, Dice dice) {
        for (int n = dice.from(1, 2); n > 0 && !tokens.isEmpty(); n--) {
            int at = dice.below(tokens.size());
            switch (dice.below(4)) {
                case 0:
                    tokens.remove(at);
                    break;
                case 1:
                    tokens.add(at, dice.pick(ANY));
                    break;
                case 2:
                    tokens.set(at, dice.pick(ANY));
                    break;
                default:
                    tokens.add(at, tokens.get(dice.below(tokens.size())));
                    break;
            }
        }
    }

    /** Lists of 399, 400, 401 and 402 tokens, whole and not. */
    private static void longLists() {
        for (int last = 0; last < 8; last++) {
            List<String> tokens = new ArrayList<>(List.of("point", "a", "at", "1", ","));
            tokens.addAll(List.of(last % 2 == 0 ? new String[] {"1"} : new String[] {"-", "1"}));
            while (tokens.size() < 396 + last / 2) {
                tokens.addAll(List.of("+", "1"));
            }
            compare(tokens, new Dice(last));
            tokens.add(";");
            compare(tokens, new Dice(last));
            tokens.add(";");
            compare(tokens, new Dice(last));
        }
    }

    private static void compare(List<String> tokens, Dice dice) {
        StringBuilder text = new StringBuilder();
        List<Integer> starts = new ArrayList<>();
        for (int i = 0; i < tokens.size(); i++) {
            boolean isWord = i > 0 && wouldJoin(tokens.get(i - 1), tokens.get(i));
            text.append(isWord ? dice.pick(" ", "\n") : dice.pick("", "", "", " "));
            starts.add(text.length());
            text.append(tokens.get(i));
        }
        text.append(dice.pick("", "", " ", "\n\n"));
        starts.add(text.length());
        if (text.length() > 2000) {
            return;
        }
        int wrong = GRAMMAR.firstWrong(tokens);
        int[] due = wrong >= 0 ? new int[] {1, wrong} : firstFlaw(tokens);
        SEEN[due[0]]++;
        GridTable table = new GridTable();
        CHECK.due("teach of " + text, Lists.teach(table, text.toString()), due[0]);
        CHECK.due("errorAt of " + text, table.errorAt(), due[0] == 0 ? -1 : starts.get(due[1]));
    }

    /** Whether two tokens without a blank between them could be read in another way. */
    private static boolean wouldJoin(String left, String right) {
        char last = left.charAt(left.length() - 1);
        char next = right.charAt(0);
        boolean isWord = Character.isLetterOrDigit(last) && Character.isLetterOrDigit(next);
        return isWord || (last == '<' || last == '>') && next == '=';
    }

    /** The first of the errors 2 to 5, and its token; 0 without one. */
    private static int[] firstFlaw(List<String> tokens) {
        List<String> points = new ArrayList<>();
        List<String> shapes = new ArrayList<>();
        int steps = 0;
        int from = 0;
        for (int end = 0; end < tokens.size(); end++) {
            if (!tokens.get(end).equals(";")) {
                continue;
            }
            String first = tokens.get(from);
            boolean isStep = !first.equals("point") && !first.equals("shape");
            if (isStep && steps == 20) {
                return new int[] {4, from};
            }
            int[] flaw = flawOfLine(tokens, from, end, points, shapes);
            if (flaw[0] != 0) {
                return flaw;
            }
            if (isStep) {
                steps++;
            } else {
                (first.equals("point") ? points : shapes).add(tokens.get(from + 1));
            }
            from = end + 1;
        }
        return new int[] {0, 0};
    }

    private static int[] flawOfLine(List<String> tokens, int from, int end, List<String> points, List<String> shapes) {
        for (int i = from + 1; i < end; i++) {
            String name = tokens.get(i);
            String before = tokens.get(i - 1);
            if (!Grammar.isName(name)) {
                continue;
            }
            int flaw = 0;
            if (before.equals("point") || before.equals("shape")) {
                List<String> told = before.equals("point") ? points : shapes;
                flaw = told.contains(name) ? 2 : told.size() >= (before.equals("point") ? 16 : 8) ? 4 : 0;
            } else if (tokens.get(from).equals("shape")) {
                int corner = i - from - 3;
                boolean isTwice = tokens.subList(from + 3, i).contains(name);
                flaw = !points.contains(name) ? 3 : corner >= 8 ? 4 : isTwice ? 5 : 0;
            } else {
                boolean isShape = List.of("turn", "flip", "area", "crosses").contains(before)
                    || List.of("crosses", "inside").contains(tokens.get(i - 2));
                flaw = (isShape ? shapes : points).contains(name) ? 0 : 3;
            }
            if (flaw != 0) {
                return new int[] {flaw, i};
            }
        }
        return new int[] {0, 0};
    }
}
