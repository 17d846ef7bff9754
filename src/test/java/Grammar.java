import java.util.ArrayList;
import java.util.HashMap;
import java.util.LinkedHashSet;
import java.util.List;
import java.util.Map;
import java.util.Set;

/**
 * The grammar of the document, told as rules, and read in another way than the class reads it (Earley's: all ways to
 * read the tokens so far are kept side by side), so that both can be compared.
 */
final class Grammar {
    private static final int DEEPEST = 8;
    private static final int MOST_TOKENS = 400;
    /** N is any name, # any number; a + ahead of a sort tells that the depth is 1 greater in it. */
    private static final String[] RULES = {
        "list : | line ; list",
        "line : point N at sum , sum | shape N of N N N names | step | step when test",
        "names : | N names",
        "step : move N by sum , sum | turn N round N | flip N at N",
        "test : both | both or test",
        "both : single | single and both",
        "single : not +single | [ +test ] | inside N N | sum < sum | sum > sum | sum = sum | sum <= sum | sum >= sum",
        "sum : product | product + sum | product - sum",
        "product : value | value * product | value / product",
        "value : # | x N | y N | area N | crosses N N | - +value | ( +sum )"
            + " | min ( +sum , +sum ) | max ( +sum , +sum )",
    };
    private static final Set<String> KEYWORDS = Set.of("point", "at", "shape", "of", "move", "by", "turn", "round",
        "flip", "when", "x", "y", "area", "crosses", "inside", "not", "and", "or", "min", "max");
    private static final Set<String> SYMBOLS = Set.of("(", ")", "[", "]", ";", ",", "+", "-", "*", "/", "<", ">", "=",
        "<=", ">=");

    private final Map<String, List<String[]>> ways = new HashMap<>();

    /** A way of a sort that is read up to a place, and the token at which it began. */
    private record State(String sort, int way, int place, int began) {
    }

    Grammar() {
        for (String rule : RULES) {
            String sort = rule.substring(0, rule.indexOf(" :"));
            String all = rule.substring(rule.indexOf(" :") + 2);
            for (int depth = 0; depth <= DEEPEST; depth++) {
                List<String[]> deep = new ArrayList<>();
                for (String way : all.split("\\|")) {
                    add(deep, way.isBlank() ? new String[0] : way.trim().split(" "), depth);
                }
                ways.put(sort + depth, deep);
            }
        }
    }

    /** Of a way that would go too deep, all ahead of the token that goes there is kept, and it has no end. */
    private static void add(List<String[]> deep, String[] way, int depth) {
        List<String> out = new ArrayList<>();
        for (String part : way) {
            boolean isDeeper = part.length() > 1 && part.charAt(0) == '+';
            if (isDeeper && depth == DEEPEST) {
                out.set(out.size() - 1, "never");
                break;
            }
            String sort = isDeeper ? part.substring(1) : part;
            out.add(isSort(sort) ? sort + (isDeeper ? depth + 1 : depth) : part);
        }
        deep.add(out.toArray(new String[0]));
    }

    private static boolean isSort(String part) {
        for (String rule : RULES) {
            if (rule.startsWith(part + " :")) {
                return true;
            }
        }
        return false;
    }

    /**
     * Returns the number of the first token with which the tokens are not the beginning of a list, the number of
     * tokens if it is the end, or -1 if they are a list.
     */
    int firstWrong(List<String> tokens) {
        List<Set<State>> states = new ArrayList<>();
        Set<State> first = new LinkedHashSet<>();
        for (int way = 0; way < ways.get("list0").size(); way++) {
            first.add(new State("list0", way, 0, 0));
        }
        states.add(first);
        close(states);
        for (int i = 0; i < tokens.size(); i++) {
            Set<State> next = new LinkedHashSet<>();
            String sign = i < MOST_TOKENS ? sign(tokens.get(i)) : "one too many";
            for (State state : states.get(i)) {
                if (sign.equals(awaited(state))) {
                    next.add(ahead(state));
                }
            }
            if (next.isEmpty()) {
                return i;
            }
            states.add(next);
            close(states);
        }
        for (State state : states.get(tokens.size())) {
            if (state.sort.equals("list0") && state.began == 0 && awaited(state).isEmpty()) {
                return -1;
            }
        }
        return tokens.size();
    }

    /** Adds all that follows from the latest states without another token. */
    private void close(List<Set<State>> states) {
        int now = states.size() - 1;
        Set<State> latest = states.get(now);
        List<State> open = new ArrayList<>(latest);
        for (int i = 0; i < open.size(); i++) {
            State state = open.get(i);
            String part = awaited(state);
            if (part.isEmpty()) {
                end(state, states, open);
            }
            for (int way = 0; ways.containsKey(part) && way < ways.get(part).size(); way++) {
                add(new State(part, way, 0, now), latest, open);
                // A part that may be empty can be gone past at once.
                if (ways.get(part).get(way).length == 0) {
                    add(ahead(state), latest, open);
                }
            }
        }
    }

    /** Goes on with all that waited for a sort that is read to its end. */
    private void end(State state, List<Set<State>> states, List<State> open) {
        if (state.began < states.size() - 1) {
            for (State outer : states.get(state.began)) {
                if (awaited(outer).equals(state.sort)) {
                    add(ahead(outer), states.get(states.size() - 1), open);
                }
            }
        }
    }

    private static void add(State state, Set<State> latest, List<State> open) {
        if (latest.add(state)) {
            open.add(state);
        }
    }

    private String awaited(State state) {
        String[] way = ways.get(state.sort).get(state.way);
        return state.place < way.length ? way[state.place] : "";
    }

    private static State ahead(State state) {
        return new State(state.sort, state.way, state.place + 1, state.began);
    }

    static boolean isName(String token) {
        return token.matches("[a-z][a-z0-9]{0,9}") && !KEYWORDS.contains(token);
    }

    /** What a token is in the rules; one that is none of them is awaited nowhere. */
    private static String sign(String token) {
        if (token.matches("[0-9]{1,6}")) {
            return "#";
        }
        boolean isOwn = KEYWORDS.contains(token) || SYMBOLS.contains(token);
        return isName(token) ? "N" : isOwn ? token : "wrong";
    }
}
