/** Promises 1 to 6: a new object, feed, trim, teach, errorAt, count. */
public final class LanguageTest {
    private static final Check CHECK = new Check("language");
    private static final String ABC = "point a at 0,0;point b at 9,0;point c at 0,9;";
    private static final String ABCS = ABC + "shape s of a b c;";

    private LanguageTest() {
    }

    public static void main(String[] args) {
        newObject();
        feed();
        feedOrder();
        trim();
        fullTape();
        lists();
        words();
        numbers();
        symbols();
        grammarOfLines();
        grammarOfTests();
        depth();
        mostTokens();
        toldTwice();
        unknownNames();
        tooMany();
        sameCorner();
        firstError();
        errorKeepsAll();
        teachBeginsAnew();
        teachFewer();
        teachManyTimes();
        teachManyLongLists();
        errorAt();
        count();
        CHECK.end();
    }

    private static void newObject() {
        GridTable table = new GridTable();
        for (int what = 0; what <= 8; what++) {
            CHECK.due("new count " + what, table.count(what), 0);
        }
        CHECK.due("new errorAt", table.errorAt(), -1);
        CHECK.due("new nearest", table.nearest(0, 0), -1);
        CHECK.due("new mean", table.mean(), 0.0);
        CHECK.due("new would", table.would(0) + table.would(5) + table.would(6) + table.would(7), 0);
        CHECK.dueState("new undo", table::undo);
        CHECK.dueIndex("new point", () -> table.point(0, 0));
        CHECK.dueIndex("new shape", () -> table.shape(0, 0));
        CHECK.dueIndex("new step", () -> table.step(0, 0));
        CHECK.dueIndex("new carry", () -> table.carry(0) ? 1 : 0);
        CHECK.dueIndex("new corner", () -> table.corner(0, 0));
        CHECK.dueIndex("new hull", () -> table.hull(0, 0));
        CHECK.dueIndex("new hullCorner", () -> table.hullCorner(0, 0));
        CHECK.dueIndex("new lies", () -> table.lies(0, 0));
        CHECK.dueIndex("new enter", () -> table.enter(0, 0));
        CHECK.dueIndex("new put", () -> table.put(0, 0, 0));
        CHECK.dueIndex("new without", () -> table.without(0));
        CHECK.due("new run", table.run(), 0);
        CHECK.due("run without steps is kept", table.count(4), 1);
        CHECK.due("undo of nothing", table.undo(), 0);
    }

    private static void feed() {
        GridTable table = new GridTable();
        for (int i = 1; i <= 100; i++) {
            CHECK.due("feed " + i, table.feed(i, 0, -1, 7, i), 20 * i);
        }
        CHECK.due("count(8) full", table.count(8), 2000);
        CHECK.dueState("feed above 2000", () -> table.feed(0, 0, 0, 0, 0));
        CHECK.due("count(8) behind a throw", table.count(8), 2000);
        table.trim(1981);
        CHECK.dueState("feed to 2001", () -> table.feed(0, 0, 0, 0, 0));
        CHECK.due("count(8) behind a throw", table.count(8), 1981);
        table.trim(1980);
        CHECK.due("feed to 2000", table.feed(0, 0, 0, 0, 0), 2000);
    }

    /** "point a at 12,-345;\n": the highest byte of each number comes first. */
    private static void feedOrder() {
        GridTable table = new GridTable();
        table.feed(0x706f696e, 0x74206120, 0x61742031, 0x322c2d33, 0x34353b0a);
        CHECK.due("teach of five numbers", table.teach(), 0);
        CHECK.due("x", table.point(0, 0), 12);
        CHECK.due("y", table.point(0, 1), -345);
        // Bytes above 127 begin no token, wherever they stand in a number.
        int[] places = {0x80202020, 0x20802020, 0x2020ff20, 0x20202090};
        for (int i = 0; i < 4; i++) {
            table.feed(0x20202020, places[i], 0x20202020, 0x20202020, 0x20202020);
            CHECK.due("a byte above 127", table.teach(), 1);
            CHECK.due("its place", table.errorAt(), 4 + i);
        }
        table.feed(0x20202020, 0x20202020, 0x20202020, 0x0a0a0a0a, 0x20202020);
        table.feed(0x706f696e, 0x7420620a, 0x61742033, 0x2c342020, 0x2020203b);
        CHECK.due("two feeds", table.teach(), 0);
        CHECK.due("x", table.point(0, 0), 3);
        CHECK.due("y", table.point(0, 1), 4);
    }

    private static void trim() {
        GridTable table = new GridTable();
        CHECK.due("trim(0) of nothing", table.trim(0), 0);
        CHECK.dueArgument("trim(1) of nothing", () -> table.trim(1));
        Lists.tape(table, "point a at 1,2;point b at 3,4;");
        CHECK.dueArgument("trim above the tape", () -> table.trim(31));
        CHECK.dueArgument("trim(-1)", () -> table.trim(-1));
        CHECK.dueArgument("trim of the least number", () -> table.trim(Integer.MIN_VALUE));
        CHECK.due("count(8) behind throws", table.count(8), 30);
        CHECK.due("trim to all", table.trim(30), 30);
        CHECK.due("trim to the first line", table.trim(15), 15);
        CHECK.due("count(8)", table.count(8), 15);
        CHECK.dueArgument("trim up again", () -> table.trim(16));
        CHECK.due("teach of the first bytes", table.teach(), 0);
        CHECK.due("points", table.count(0), 1);
        CHECK.due("x of the first one", table.point(0, 0), 1);
        CHECK.dueArgument("trim of an empty tape", () -> table.trim(1));
    }

    private static void due(String text, int error, int at) {
        GridTable table = new GridTable();
        CHECK.due("teach of " + text, Lists.teach(table, text), error);
        CHECK.due("errorAt of " + text, table.errorAt(), at);
        CHECK.due("tape behind " + text, table.count(8), 0);
    }

    private static void good(String text) {
        due(text, 0, -1);
    }

    /** The text stands behind three points and a shape; the place of the error is counted from its first byte. */
    private static void dueBehind(String text, int error, int at) {
        due(ABCS + text, error, ABCS.length() + at);
    }

    private static void goodBehind(String text) {
        due(ABCS + text, 0, -1);
    }

    private static void lists() {
        good("");
        good("   ");
        good("\n \n");
        good("point a at 1,2;");
        good("\n point\na  at\n1 , 2 ; \n");
        good("point a at 1,2;point b at 1,2;");
        due(";", 1, 0);
        due("point a at 1,2;;", 1, 15);
        due("point a at 1,2", 1, 14);
        due("point a at 1,2  \n", 1, 17);
        due("point", 1, 5);
        due("a", 1, 0);
        due("  7", 1, 2);
        due("point a at 1,2;\t", 1, 15);
        due("point a\rat 1,2;", 1, 7);
        due("point a at 1,2;\0", 1, 15);
    }

    /** All 2000 bytes are read, and the end of such a tape is at 2000. */
    private static void fullTape() {
        String line = "point a at 1,2;";
        good(Lists.repeat(" ", 2000));
        good(Lists.repeat("\n", 2000));
        good(Lists.repeat(" ", 2000 - line.length()) + line);
        good(line + Lists.repeat(" \n", 990) + "     ");
        due(Lists.repeat(" ", 1999) + ";", 1, 1999);
        due(Lists.repeat("\n", 1999) + "?", 1, 1999);
        due(Lists.repeat(" ", 1986) + "point a at 1,2", 1, 2000);
        due(Lists.repeat(" ", 1988) + "point a at 1", 1, 2000);
        due(Lists.repeat(" ", 1983) + "point a at 123456", 1, 2000);
        due(Lists.repeat(" ", 1982) + "point a at 1234567", 1, 1993);
        due(Lists.repeat(" ", 1984) + "point abcdefghij", 1, 2000);
        due(Lists.repeat(" ", 1983) + "point abcdefghijk", 1, 1989);
        GridTable table = new GridTable();
        CHECK.due("teach of a full tape", Lists.teach(table, line + Lists.repeat(" ", 1970) + "point b at 3,4;"), 0);
        CHECK.due("points", table.count(0), 2);
        CHECK.due("the tape behind it", table.count(8), 0);
        CHECK.due("feed behind it", table.feed(0, 0, 0, 0, 0), 20);
    }

    private static void words() {
        good("point abcdefghij at 1,2;");
        due("point abcdefghijk at 1,2;", 1, 6);
        good("point a123456789 at 1,2;");
        due("point a1234567890 at 1,2;", 1, 6);
        due("point abcdefghijklmnop", 1, 6);
        due("pointa at 1,2;", 1, 0);
        due("point aat 1,2;", 1, 10);
        due("point a at1,2;", 1, 8);
        due("point A at 1,2;", 1, 6);
        due("point aB at 1,2;", 1, 7);
        due("point a_ at 1,2;", 1, 7);
        due("point ` at 1,2;", 1, 6);
        due("point { at 1,2;", 1, 6);
        due("point 1a at 1,2;", 1, 6);
        good("point z9 at 1,2;");
        good("point a0 at 1,2;point a at 1,2;point a00 at 1,2;point a1 at 1,2;point b at 1,2;");
        due("point ab1 at 1,2;point ab1 at 1,2;", 2, 23);
        // A number ends ahead of a letter, so this is the end of a number and a word.
        due("point a at 1,2x;", 1, 14);
        GridTable table = Lists.taught(ABCS + "move a by 1,2when inside a s;");
        CHECK.due("a number and a word without a blank", table.count(2), 1);
        String[] keywords = {"point", "at", "shape", "of", "move", "by", "turn", "round", "flip", "when", "x", "y",
            "area", "crosses", "inside", "not", "and", "or", "min", "max"};
        for (String keyword : keywords) {
            due("point " + keyword + " at 1,2;", 1, 6);
            good("point " + keyword + "0 at 1,2;");
            good("point " + keyword + "q at 1,2;");
        }
    }

    private static void numbers() {
        good("point a at 999999,000000;");
        due("point a at 1000000,0;", 1, 11);
        due("point a at 0000000,0;", 1, 11);
        due("point a at 1,0000001;", 1, 13);
        due("point a at 12 3,4;", 1, 14);
        due("point a at 1.5,4;", 1, 12);
        due("point a at /,4;", 1, 11);
        due("point a at :,4;", 1, 11);
        GridTable table = Lists.taught("point a at 007,0900;");
        CHECK.due("a number with zeros ahead", table.point(0, 0), 7);
        CHECK.due("a number with zeros ahead", table.point(0, 1), 900);
    }

    private static void symbols() {
        dueBehind("move a by 1,2 when 1<=2;", 0, -ABCS.length() - 1);
        dueBehind("move a by 1,2 when 1< =2;", 1, 22);
        dueBehind("move a by 1,2 when 1> =2;", 1, 22);
        dueBehind("move a by 1,2 when 1=<2;", 1, 21);
        dueBehind("move a by 1,2 when 1=>2;", 1, 21);
        dueBehind("move a by 1,2 when 1==2;", 1, 21);
        dueBehind("move a by 1,2 when 1<>2;", 1, 21);
        dueBehind("move a by 1,2 when 1<==2;", 1, 22);
        for (char sign : "!\"#$%&'.:?@\\^_`{|}~\u007f\u0080\u00ff\u0001\t\r".toCharArray()) {
            dueBehind("move a by 1," + sign, 1, 12);
        }
    }

    private static void grammarOfLines() {
        due("point 7 at 1,2;", 1, 6);
        due("point a of 1,2;", 1, 8);
        due("point a at ,2;", 1, 11);
        due("point a at 1;", 1, 12);
        due("point a at 1 2;", 1, 13);
        due("point a at 1,;", 1, 13);
        due("point a at 1,2 when 1=1;", 1, 15);
        dueBehind("shape t of a b;", 1, 14);
        dueBehind("shape t of a;", 1, 12);
        dueBehind("shape t of ;", 1, 11);
        dueBehind("shape t at a b c;", 1, 8);
        dueBehind("shape of a b c;", 1, 6);
        dueBehind("shape t of a,b,c;", 1, 12);
        dueBehind("shape t of a b c 7;", 1, 17);
        dueBehind("shape t of a b c when 1=1;", 1, 17);
        goodBehind("shape t of c b a;");
        goodBehind("move a by 1,2;");
        dueBehind("move a 1,2;", 1, 7);
        dueBehind("move by 1,2;", 1, 5);
        dueBehind("move a by 1;", 1, 11);
        dueBehind("move a by 1,2 1=1;", 1, 14);
        dueBehind("move a by 1,2,3;", 1, 13);
        goodBehind("turn s round a;");
        dueBehind("turn s at a;", 1, 7);
        dueBehind("turn s round;", 1, 12);
        dueBehind("turn s round a,b;", 1, 14);
        dueBehind("turn round a;", 1, 5);
        goodBehind("flip s at a;");
        dueBehind("flip s round a;", 1, 7);
        dueBehind("flip s at;", 1, 9);
        dueBehind("flip s at 1,2;", 1, 10);
        goodBehind("turn s round a when 1=1;flip s at a when 1=1;");
        dueBehind("turn s round a when ;", 1, 20);
        dueBehind("turn s round a when", 1, 19);
        dueBehind("turn s round a 1=1;", 1, 15);
        dueBehind("when 1=1;", 1, 0);
        dueBehind("area s;", 1, 0);
    }

    private static void dueTest(String test, int error, int at) {
        String ahead = "move a by 0,0 when ";
        if (error == 0) {
            goodBehind(ahead + test + ";");
        } else {
            dueBehind(ahead + test + ";", error, ahead.length() + at);
        }
    }

    private static void dueSum(String sum, int error, int at) {
        String ahead = "move a by ";
        if (error == 0) {
            goodBehind(ahead + sum + ",1;");
        } else {
            dueBehind(ahead + sum + ",1;", error, ahead.length() + at);
        }
    }

    private static void grammarOfTests() {
        dueTest("1", 1, 1);
        dueTest("1<2<3", 1, 3);
        dueTest("1<2 and 3", 1, 9);
        dueTest("1<2 or", 1, 6);
        dueTest("1<2 and", 1, 7);
        dueTest("1<2 1<2", 1, 4);
        dueTest("or 1<2", 1, 0);
        dueTest("not", 1, 3);
        dueTest("not not 1<2", 0, 0);
        dueTest("not [1<2]", 0, 0);
        dueTest("not inside a s", 0, 0);
        dueTest("[1<2", 1, 4);
        dueTest("[1<2)", 1, 4);
        dueTest("1<2]", 1, 3);
        dueTest("[]", 1, 1);
        dueTest("[1]", 1, 2);
        dueTest("(1<2)", 1, 2);
        dueTest("[1]<2", 1, 2);
        dueTest("[1<2]+1", 1, 5);
        dueTest("[[1<2] and 1=1] or 2>=1", 0, 0);
        dueTest("inside a", 1, 8);
        dueTest("inside s", 1, 8);
        dueTest("inside a,s", 1, 8);
        dueTest("inside a s and inside b s", 0, 0);
        dueTest("inside a s < 1", 1, 11);
        dueTest("not (1)<2", 0, 0);
        dueTest("x a<y b", 0, 0);
        dueTest("min(1,2)>=max(3,4)", 0, 0);
        dueTest("1 < not 2", 1, 4);
        dueSum("1+", 1, 2);
        dueSum("+1", 1, 0);
        dueSum("1+-1", 0, 0);
        dueSum("1--1", 0, 0);
        dueSum("1*-1", 0, 0);
        dueSum("1*/1", 1, 2);
        dueSum("1 1", 1, 2);
        dueSum("()", 1, 1);
        dueSum("(1", 1, 2);
        dueSum("(1]", 1, 2);
        dueSum("1)", 1, 1);
        dueSum("(1+2)*3", 0, 0);
        dueSum("-(-1)", 0, 0);
        dueSum("x", 1, 1);
        dueSum("x(a)", 1, 1);
        dueSum("x 1", 1, 2);
        dueSum("-x a", 0, 0);
        dueSum("x -a", 1, 2);
        dueSum("area s", 0, 0);
        dueSum("area", 1, 4);
        dueSum("crosses s", 1, 9);
        dueSum("crosses s s", 0, 0);
        dueSum("crosses s s s", 1, 12);
        dueSum("min(1,2)", 0, 0);
        dueSum("min 1,2", 1, 4);
        dueSum("min", 1, 3);
        dueSum("max", 1, 3);
        dueSum("1+min", 1, 5);
        dueSum("min[1,2]", 1, 3);
        dueSum("min-1", 1, 3);
        dueSum("min x a", 1, 4);
        dueSum("min(1)", 1, 5);
        dueSum("min(1,2", 1, 7);
        dueSum("max(1,2,3)", 1, 7);
        dueSum("max()", 1, 4);
        dueSum("a", 1, 0);
        dueSum("inside a s", 1, 0);
        dueSum("1<2", 1, 1);
    }

    private static void depth() {
        String eight = Lists.repeat("(", 8);
        dueSum(eight + "1" + Lists.repeat(")", 8), 0, 0);
        dueSum(eight + "(1" + Lists.repeat(")", 9), 1, 8);
        dueSum(Lists.repeat("-", 8) + "1", 0, 0);
        dueSum(Lists.repeat("-", 9) + "1", 1, 8);
        dueSum(Lists.repeat("-(", 4) + "1" + Lists.repeat(")", 4), 0, 0);
        dueSum(Lists.repeat("-(", 4) + "-1" + Lists.repeat(")", 4), 1, 8);
        dueSum(Lists.repeat("-(", 4) + "(1)" + Lists.repeat(")", 4), 1, 8);
        dueSum(Lists.repeat("min(", 8) + "1" + Lists.repeat(",2)", 8), 0, 0);
        dueSum(Lists.repeat("max(", 9) + "1" + Lists.repeat(",2)", 9), 1, 35);
        dueSum(Lists.repeat("min(0,", 8) + "1" + Lists.repeat(")", 8), 0, 0);
        dueSum(Lists.repeat("min(0,", 8) + "-1" + Lists.repeat(")", 8), 1, 48);
        // The depth is 0 again behind the comma.
        good("point a at " + eight + "1" + Lists.repeat(")", 8) + "," + eight + "1" + Lists.repeat(")", 8) + ";");
        due("point a at " + eight + "-1" + Lists.repeat(")", 8) + ",1;", 1, 19);
        due("point a at " + eight + "(1" + Lists.repeat(")", 9) + ",1;", 1, 19);
        due("point a at -1," + eight + "-1" + Lists.repeat(")", 8) + ";", 1, 22);
        goodBehind("move a by " + eight + "1" + Lists.repeat(")", 8) + "," + eight + "1" + Lists.repeat(")", 8) + ";");
        dueBehind("move a by -1," + eight + "-1" + Lists.repeat(")", 8) + ";", 1, 21);
        // The depth goes back behind what was turned, and behind the last bracket.
        dueSum("-1-" + Lists.repeat("-", 8) + "1", 0, 0);
        dueSum("-(1)*" + eight + "1" + Lists.repeat(")", 8) + "-" + eight + "1" + Lists.repeat(")", 8), 0, 0);
        dueSum("min(1,2)+" + eight + "1" + Lists.repeat(")", 8), 0, 0);
        dueTest(Lists.repeat("not ", 8) + "1=1", 0, 0);
        dueTest(Lists.repeat("not ", 9) + "1=1", 1, 32);
        dueTest(Lists.repeat("[", 8) + "1=1" + Lists.repeat("]", 8), 0, 0);
        dueTest(Lists.repeat("[", 9) + "1=1" + Lists.repeat("]", 9), 1, 8);
        dueTest(Lists.repeat("not [", 4) + "1=1" + Lists.repeat("]", 4), 0, 0);
        dueTest(Lists.repeat("not [", 4) + "not 1=1" + Lists.repeat("]", 4), 1, 20);
        dueTest(Lists.repeat("not [", 4) + "[1=1]" + Lists.repeat("]", 4), 1, 20);
        dueTest(Lists.repeat("not [", 4) + "1=-1" + Lists.repeat("]", 4), 1, 22);
        dueTest(Lists.repeat("not [", 4) + "-1=1" + Lists.repeat("]", 4), 1, 20);
        dueTest(Lists.repeat("not ", 7) + "(1)=-1", 0, 0);
        dueTest(Lists.repeat("not ", 7) + "((1))=1", 1, 29);
        dueTest(Lists.repeat("not ", 7) + "1=((1))", 1, 31);
        dueTest(Lists.repeat("not ", 8) + "inside a s", 0, 0);
        dueTest("not 1=1 and " + Lists.repeat("not ", 8) + "1=1", 0, 0);
        dueTest("[1=1] or " + Lists.repeat("[", 8) + "1=1" + Lists.repeat("]", 8), 0, 0);
    }

    private static String sumOf(int ones) {
        return "1" + Lists.repeat("+1", ones - 1);
    }

    private static void mostTokens() {
        // point a at - , 2 ; are seven tokens, and the sum has one of each sign.
        String most = "point a at -" + sumOf(197) + ",2;";
        good(most);
        good(most + "  \n ");
        due(most + " ;", 1, most.length() + 1);
        due(most + " point", 1, most.length() + 1);
        due(most + "\0", 1, most.length());
        due(most + " 1234567", 1, most.length() + 1);
        // The 401st token is the last semicolon.
        String over = "point a at " + sumOf(198) + ",2";
        due(over + ";", 1, over.length());
        // Of 400 tokens that are no whole list, the end is the wrong one.
        due(over, 1, over.length());
        due(over + "   ", 1, over.length() + 3);
        due(over + " ;", 1, over.length() + 1);
        // The 401st token goes ahead of the errors 2 to 5.
        String unknown = "point a at -x q+" + sumOf(196) + ",2";
        due(unknown + ";", 1, unknown.length());
        String fewer = "point a at x q-" + sumOf(195) + ",2;";
        due(fewer, 3, 13);
    }

    private static void toldTwice() {
        due("point a at 1,2;point a at 3,4;", 2, 21);
        due("point a at 1,2;point b at 3,4;point a at 3,4;", 2, 36);
        dueBehind("shape s of a b c;", 2, 6);
        // Points and shapes have names of their own.
        goodBehind("shape a of a b c;");
        goodBehind("point s at 1,2;");
        goodBehind("point s at 1,2;shape b of s b a;turn b round b;");
        // A name that has an error is told first.
        due("point a at 1,2;point a at x q,2;", 2, 21);
        dueBehind("shape s of q q q;", 2, 6);
    }

    private static void unknownNames() {
        dueSum("x q", 3, 2);
        dueSum("y q", 3, 2);
        dueSum("x s", 3, 2);
        dueSum("y s", 3, 2);
        dueSum("area a", 3, 5);
        dueSum("area q", 3, 5);
        dueSum("crosses s a", 3, 10);
        dueSum("crosses a s", 3, 8);
        dueSum("1+x q", 3, 4);
        dueTest("inside s a", 3, 7);
        dueTest("inside a a", 3, 9);
        dueTest("inside s s", 3, 7);
        dueTest("inside a q", 3, 9);
        dueTest("1=1 and inside q s", 3, 15);
        dueBehind("shape t of a b s;", 3, 15);
        dueBehind("shape t of q b c;", 3, 11);
        dueBehind("shape t of a q c;", 3, 13);
        dueBehind("shape t of a b c d;", 3, 17);
        dueBehind("move s by 1,2;", 3, 5);
        dueBehind("move q by 1,2;", 3, 5);
        dueBehind("move a by x q,2;", 3, 12);
        dueBehind("move a by 1,x q;", 3, 14);
        dueBehind("turn a round a;", 3, 5);
        dueBehind("turn q round a;", 3, 5);
        dueBehind("turn s round s;", 3, 13);
        dueBehind("turn s round q;", 3, 13);
        dueBehind("flip a at a;", 3, 5);
        dueBehind("flip s at s;", 3, 10);
        dueBehind("flip q at a;", 3, 5);
        // No line can name its own point or shape, nor one that is told behind it.
        due("point a at x a,2;", 3, 13);
        due("point a at 1,y a;", 3, 15);
        due("point a at x b,2;point b at 1,2;", 3, 13);
        due(ABC + "turn s round a;shape s of a b c;", 3, ABC.length() + 5);
        due(ABC + "point d at area s,2;shape s of a b c;", 3, ABC.length() + 16);
    }

    private static String points(int number) {
        StringBuilder out = new StringBuilder();
        for (int i = 0; i < number; i++) {
            out.append("point p").append(i).append(" at ").append(i).append(",").append(i * i).append(";");
        }
        return out.toString();
    }

    private static void dueBehindPoints(String text, int error, int at) {
        String ahead = points(10);
        due(ahead + text, error, error == 0 ? -1 : ahead.length() + at);
    }

    private static void tooMany() {
        String all = points(16);
        good(all);
        due(all + "point z at 1,2;", 4, all.length() + 6);
        due(all + "point p3 at 1,2;", 2, all.length() + 6);
        due(all + "point z at x q,2;", 4, all.length() + 6);
        due(all + "point z at 1,2", 1, all.length() + 14);
        String shapes = ABC;
        for (int i = 0; i < 8; i++) {
            shapes += "shape s" + i + " of a b c;";
        }
        good(shapes);
        due(shapes + "shape t of a b c;", 4, shapes.length() + 6);
        due(shapes + "shape s7 of a b c;", 2, shapes.length() + 6);
        due(shapes + "shape t of q b c;", 4, shapes.length() + 6);
        dueBehindPoints("shape s of p0 p1 p2 p3 p4 p5 p6 p7;", 0, 0);
        dueBehindPoints("shape s of p0 p1 p2 p3 p4 p5 p6 p7 p8;", 4, 35);
        dueBehindPoints("shape s of p0 p1 p2 p3 p4 p5 p6 p7 p8 p9;", 4, 35);
        dueBehindPoints("shape s of p0 p1 p2 p3 p4 p5 p6 p7 q;", 3, 35);
        dueBehindPoints("shape s of p0 p1 p2 p3 p4 p5 p6 p7 p0;", 4, 35);
        tooManySteps();
    }

    private static void tooManySteps() {
        String steps = ABCS;
        for (int i = 0; i < 20; i++) {
            steps += i % 3 == 0 ? "move a by 1,2;" : i % 3 == 1 ? "turn s round a;" : "flip s at a;";
        }
        good(steps);
        due(steps + "move a by 1,2;", 4, steps.length());
        due(steps + "turn s round a;", 4, steps.length());
        due(steps + "flip s at a;", 4, steps.length());
        due(steps + "move q by 1,2;", 4, steps.length());
        good(steps + "point d at 1,2;shape t of a b d;");
        due(steps + "move a by 1,2", 1, steps.length() + 13);
        due(steps + "point a at 1,2;move a by 1,2;", 2, steps.length() + 6);
    }

    private static void sameCorner() {
        dueBehind("shape t of a a b;", 5, 13);
        dueBehind("shape t of a b a;", 5, 15);
        dueBehind("shape t of a b c b;", 5, 17);
        dueBehind("shape t of a a q;", 5, 13);
        dueBehind("shape t of a q a;", 3, 13);
        // Two points at the same place are two corners.
        goodBehind("point d at x a,y a;shape t of a d b;");
    }

    private static void firstError() {
        due("point a at x q,2;;", 1, 17);
        due("point a at x q,2;point a at 1,2;", 3, 13);
        due("point a at 1,2;point a at x q,2", 1, 31);
        dueBehind("move q by x r,2 when inside z z", 1, 31);
        dueBehind("turn q round r;", 3, 5);
        due("point a at x q,2;abcdefghijk", 1, 17);
        due("point a at x q,2;1234567", 1, 17);
        due("point a at x q,2; \u00e9", 1, 18);
        due("point a at x q,---------2;", 1, 23);
        dueBehind("point d at x q,2;point a at 1,2;turn r round a;", 3, 13);
        dueBehind("point a at x q,2;turn r round a;", 2, 6);
        dueBehind("shape t of a b q a;", 3, 15);
        dueBehind("shape t of a b b q;", 5, 15);
        dueBehind("move a by 1,2 when area r<x q;", 3, 24);
        dueBehind("shape t of a a b 1;", 1, 17);
        dueBehind("shape t of a a b;shape s of a b c;", 5, 13);
    }

    private static void errorKeepsAll() {
        GridTable table = Lists.taught(ABCS + "move a by 1,2;turn s round b;");
        table.run();
        table.put(1, 5, 6);
        String all = Lists.all(table);
        String[] wrong = {"point z at 1,2;point y", "point z at 1,2;point z at 1,2;", "point z at x q,1;",
            points(17), ABC + "shape s of a b a;", ";"};
        int[] errors = {1, 2, 3, 4, 5, 1};
        for (int i = 0; i < wrong.length; i++) {
            CHECK.due("teach of " + wrong[i], Lists.teach(table, wrong[i]), errors[i]);
            CHECK.due("all stays", Lists.all(table).equals(all) ? 1 : 0, 1);
            CHECK.due("but the tape is empty", table.count(8), 0);
        }
        CHECK.due("undo behind errors", table.undo(), 1);
        CHECK.due("undo behind errors", table.undo(), 2);
        CHECK.due("x is back", table.point(1, 0), 9);
    }

    private static void teachBeginsAnew() {
        GridTable table = Lists.taught(ABCS + "move a by 1,2;turn s round b;");
        table.run();
        table.carry(0);
        CHECK.due("steps that were carried out", table.count(3), 3);
        CHECK.due("teach again", Lists.teach(table, "point b at 4,5;point a at 7,8;move a by 1,1;"), 0);
        CHECK.due("points", table.count(0), 2);
        CHECK.due("shapes", table.count(1), 0);
        CHECK.due("steps", table.count(2), 1);
        CHECK.due("no step was carried out", table.count(3), 0);
        CHECK.due("nor this one", table.step(0, 4), 0);
        CHECK.due("nothing can be taken back", table.count(4), 0);
        CHECK.dueState("undo", table::undo);
        CHECK.due("x of b", table.point(0, 0), 4);
        CHECK.due("y of a", table.point(1, 1), 8);
        CHECK.dueIndex("the third point", () -> table.point(2, 0));
        table.run();
        CHECK.due("an empty list", Lists.teach(table, ""), 0);
        for (int what = 0; what <= 8; what++) {
            CHECK.due("count " + what + " behind an empty list", table.count(what), 0);
        }
        CHECK.due("the first list again", Lists.teach(table, ABCS + "move a by 1,2;turn s round b;"), 0);
        CHECK.due("as it is at first", table.point(0, 0) + table.point(2, 1), 9);
        CHECK.due("carried out", table.count(3) + table.step(0, 4), 0);
    }

    /** What an earlier list told is not there any more, behind any number of lists that tell less. */
    private static void teachFewer() {
        GridTable table = Lists.taught(ABCS + "point d at 1,1;shape t of c b a;move d by 1,1;turn t round a;");
        for (int i = 0; i < 4; i++) {
            CHECK.due("teach of fewer", Lists.teach(table, ABCS + "move a by 1,2;"), 0);
            CHECK.dueIndex("point behind the last one", () -> table.point(3, 0));
            CHECK.dueIndex("lies of it", () -> table.lies(3, 0));
            CHECK.dueIndex("enter of it", () -> table.enter(3, 0));
            CHECK.dueIndex("put of it", () -> table.put(3, 0, 0));
            CHECK.dueIndex("shape behind the last one", () -> table.shape(1, 0));
            CHECK.dueIndex("corner of it", () -> table.corner(1, 0));
            CHECK.dueIndex("lies in it", () -> table.lies(0, 1));
            CHECK.dueIndex("crosses with it", () -> table.crosses(0, 1));
            CHECK.dueIndex("crosses of it", () -> table.crosses(1, 0));
            CHECK.dueIndex("hull of it", () -> table.hull(1, 0));
            CHECK.dueIndex("hullCorner of it", () -> table.hullCorner(1, 0));
            CHECK.dueIndex("enter into it", () -> table.enter(0, 1));
            CHECK.dueIndex("step behind the last one", () -> table.step(1, 0));
            CHECK.dueIndex("carry of it", () -> table.carry(1) ? 1 : 0);
            CHECK.dueIndex("without it", () -> table.without(1));
            CHECK.due("run", table.run(), 1);
        }
    }

    /** Lists of which each has other shapes, corners and steps than the one ahead of it. */
    private static void teachManyTimes() {
        GridTable table = new GridTable();
        for (int i = 0; i < 12; i++) {
            int corners = 3 + i * 5 % 6;
            StringBuilder list = new StringBuilder(points(8 + i % 3));
            list.append("shape s of");
            for (int k = 0; k < corners; k++) {
                list.append(" p").append((i + k) % 8);
            }
            list.append(i % 2 == 0 ? ";move p1 by 1,1;" : ";shape t of p3 p4 p5;");
            CHECK.due("teach", Lists.teach(table, list.toString()), 0);
            CHECK.due("points", table.count(0), 8 + i % 3);
            CHECK.due("shapes", table.count(1), 1 + i % 2);
            CHECK.due("steps", table.count(2), 1 - i % 2);
            CHECK.due("corners", table.shape(0, 0), corners);
            for (int k = 0; k < corners; k++) {
                CHECK.due("corner " + k, table.corner(0, k), (i + k) % 8);
            }
            CHECK.due("x", table.point(7, 0), 7);
            CHECK.due("y", table.point(7, 1), 49);
            CHECK.due("run", table.run(), 1 - i % 2);
            CHECK.due("carried out", table.count(3), 1 - i % 2);
        }
    }

    /** Lists that have, taken together, far more sums than one of them could have, and errors between them. */
    private static void teachManyLongLists() {
        GridTable table = new GridTable();
        for (int i = 0; i < 8; i++) {
            String sums = sumOf(90 + i) + "," + sumOf(40);
            String list = ABCS + "move a by " + sums + " when " + sumOf(30) + "=" + (30 + i % 2) + ";";
            CHECK.due("teach of a long list", Lists.teach(table, list), 0);
            CHECK.due("whether its test holds", table.step(0, 3), 1 - i % 2);
            CHECK.due("carry", table.carry(0) ? 1 : 0, 1 - i % 2);
            CHECK.due("x", table.point(0, 0), i % 2 == 0 ? 90 + i : 0);
            CHECK.due("y", table.point(0, 1), i % 2 == 0 ? 40 : 0);
            CHECK.due("teach with an error", Lists.teach(table, "point a at " + sums + ";move b by " + sums), 1);
            CHECK.due("x behind it", table.point(0, 0), i % 2 == 0 ? 90 + i : 0);
        }
        CHECK.due("teach of a point", Lists.teach(table, "point a at " + sumOf(150) + "," + sumOf(40) + ";"), 0);
        CHECK.due("its x", table.point(0, 0), 150);
        CHECK.due("its y", table.point(0, 1), 40);
    }

    private static void errorAt() {
        GridTable table = new GridTable();
        Lists.teach(table, "   ;");
        CHECK.due("errorAt", table.errorAt(), 3);
        table.feed(1, 2, 3, 4, 5);
        table.trim(7);
        CHECK.due("errorAt stays", table.errorAt(), 3);
        Lists.teach(table, "point a at x a,1;");
        CHECK.due("errorAt of the latest", table.errorAt(), 13);
        Lists.teach(table, "point a at 2,1;");
        CHECK.due("errorAt without error", table.errorAt(), -1);
        Lists.teach(table, "?");
        CHECK.due("errorAt 0", table.errorAt(), 0);
        table.teach();
        CHECK.due("errorAt of an empty tape", table.errorAt(), -1);
    }

    private static void count() {
        GridTable table = Lists.taught("point a at 0,0;point b at 10,0;point c at 10,10;point d at 0,10;"
            + "point e at 5,3;point f at 5,20;point g at 40,40;shape s of a b c d;shape bow of a b d c;"
            + "shape u of e b f d;move e by 0,0;turn u round e when 1=2;flip bow at g;");
        table.feed(0, 0, 0, 0, 0);
        int[] wanted = {7, 3, 3, 0, 0, 200 + 0 + 170, 5, 1, 20};
        for (int what = 0; what <= 8; what++) {
            CHECK.due("count " + what, table.count(what), wanted[what]);
        }
        CHECK.dueIndex("count(-1)", () -> table.count(-1));
        CHECK.dueIndex("count(9)", () -> table.count(9));
        CHECK.dueIndex("count of the least number", () -> table.count(Integer.MIN_VALUE));
        CHECK.dueIndex("count of the greatest number", () -> table.count(Integer.MAX_VALUE));
        table.run();
        CHECK.due("two of three steps", table.count(3), 2);
        CHECK.due("what can be taken back", table.count(4), 1);
        table.undo();
        CHECK.due("also those that were taken back", table.count(3), 2);
        CHECK.due("nothing can be taken back", table.count(4), 0);
        table.carry(0);
        CHECK.due("one more", table.count(3), 3);
        countInside();
    }

    private static void countInside() {
        GridTable table = Lists.taught("point q at 4,4;point a at 0,0;point b at 9,0;point c at 9,9;point d at 0,9;"
            + "point r at 5,5;shape s of a b c d;shape t of a b c d;");
        CHECK.due("the first and the last point, each once", table.count(7), 2);
        table.put(0, 9, 4);
        CHECK.due("the last point", table.count(7), 1);
        table.put(5, -1, 4);
        CHECK.due("none", table.count(7), 0);
        table.put(0, 8, 4);
        CHECK.due("the first point", table.count(7), 1);
        table.put(3, 6, 0);
        CHECK.due("the points stay as the shape goes", table.count(7), 0);
    }
}
