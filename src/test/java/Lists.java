/** Puts texts on the tape of a table. */
final class Lists {
    private Lists() {
    }

    /** The tape holds just the signs of the text (0 to 255) behind this. */
    static void tape(GridTable table, String text) {
        table.trim(0);
        for (int at = 0; at < text.length(); at += 20) {
            table.feed(word(text, at), word(text, at + 4), word(text, at + 8), word(text, at + 12), word(text, at + 16));
        }
        table.trim(text.length());
    }

    static int teach(GridTable table, String text) {
        tape(table, text);
        return table.teach();
    }

    /** A new table that has read a list without error. */
    static GridTable taught(String text) {
        GridTable table = new GridTable();
        int error = teach(table, text);
        if (error != 0) {
            throw new AssertionError("error " + error + " at " + table.errorAt() + " in " + text);
        }
        return table;
    }

    /** All that a table tells, but for the bytes of its tape: equal for tables that cannot be told apart. */
    static String all(GridTable table) {
        StringBuilder out = new StringBuilder();
        for (int what = 0; what <= 7; what++) {
            out.append(table.count(what)).append(' ');
        }
        for (int i = 0; i < table.count(0); i++) {
            out.append(table.point(i, 0)).append(',').append(table.point(i, 1)).append(' ');
        }
        for (int i = 0; i < table.count(1); i++) {
            for (int k = 0; k < table.shape(i, 0); k++) {
                out.append(table.corner(i, k)).append(k + 1 < table.shape(i, 0) ? '-' : ' ');
            }
        }
        for (int i = 0; i < table.count(2); i++) {
            for (int what = 0; what <= 4; what++) {
                out.append(table.step(i, what)).append(what < 4 ? ':' : ' ');
            }
        }
        return out.append(table.would(0)).toString();
    }

    static String repeat(String text, int times) {
        return text.repeat(times);
    }

    private static int word(String text, int at) {
        int word = 0;
        for (int i = at; i < at + 4; i++) {
            word = word << 8 | (i < text.length() ? text.charAt(i) : ' ');
        }
        return word;
    }
}
