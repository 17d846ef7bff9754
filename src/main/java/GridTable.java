/** A geometry table: points on a grid, shapes of points, and a list of steps that move them by tests. */
public final class GridTable {
    private static final int MOST_BYTES = 2000;
    private static final int FEED_BYTES = 20;
    private static final int FARTHEST = 999;
    private static final int MOST_POINTS = 16;
    private static final int MOST_SHAPES = 8;
    private static final int MOST_CORNERS = 8;
    private static final int LEAST_CORNERS = 3;
    private static final int MOST_STEPS = 20;
    private static final int MOST_TOKENS = 400;
    private static final int LONGEST_WORD = 10;
    private static final int LONGEST_NUMBER = 6;
    private static final int DEEPEST = 8;
    private static final int MOST_KEPT = 12;
    private static final int LONGEST_WAY = 12;

    // What a token is: a symbol of one sign is that sign's own number, all others are these.
    private static final int NAME = 128;
    private static final int NUMBER = 129;
    private static final int END = 130;
    private static final int BAD = 131;
    private static final int AT_MOST = 132;
    private static final int AT_LEAST = 133;
    // No token, only an operation of the code: - in front of a value.
    private static final int NEGATE = 134;
    // The keywords, in the order of the text KEYWORDS.
    private static final int POINT = 140;
    private static final int AT = 141;
    private static final int SHAPE = 142;
    private static final int OF = 143;
    private static final int MOVE = 144;
    private static final int BY = 145;
    private static final int TURN = 146;
    private static final int ROUND = 147;
    private static final int FLIP = 148;
    private static final int WHEN = 149;
    private static final int X = 150;
    private static final int Y = 151;
    private static final int AREA = 152;
    private static final int CROSSES = 153;
    private static final int INSIDE = 154;
    private static final int NOT = 155;
    private static final int AND = 156;
    private static final int OR = 157;
    private static final int MIN = 158;
    private static final int MAX = 159;
    private static final int KEYWORD_COUNT = 20;
    private static final String KEYWORDS =
        "point at shape of move by turn round flip when x y area crosses inside not and or min max ";
    private static final String SYMBOLS = "()[];,+-*/<>=";

    private static final int TWICE_TOLD = 2;
    private static final int UNKNOWN = 3;
    private static final int TOO_MANY = 4;
    private static final int SAME_CORNER = 5;

    private final Tape tape = new Tape();
    private final Reader reader = new Reader();
    private Told told = new Told();
    private final Places now = new Places();
    private final Places tried = new Places();
    private final History history = new History();
    private final Ring wrapped = new Ring();
    private int errorPlace = -1;

    public GridTable() {
    }

    // ---- the language

    public int feed(int a, int b, int c, int d, int e) throws IllegalStateException {
        if (tape.size() > MOST_BYTES - FEED_BYTES) {
            throw new IllegalStateException("the tape is full");
        }
        tape.append(a);
        tape.append(b);
        tape.append(c);
        tape.append(d);
        tape.append(e);
        return tape.size();
    }

    public int trim(int n) throws IllegalArgumentException {
        if (n < 0 || n > tape.size()) {
            throw new IllegalArgumentException("the tape has not so many bytes");
        }
        tape.shorten(n);
        return n;
    }

    public int teach() {
        int error = reader.read(tape);
        errorPlace = reader.errorPlace();
        tape.shorten(0);
        if (error == 0) {
            told = reader.exchange(told);
            now.copy(told.first());
            history.clear();
        }
        return error;
    }

    public int errorAt() {
        return errorPlace;
    }

    public int count(int what) throws IndexOutOfBoundsException {
        switch (what) {
            case 0: return told.pointNames().size();
            case 1: return told.shapes().size();
            case 2: return told.stepCount();
            case 3: return told.timesInAll();
            case 4: return history.size();
            case 5: return told.shapes().areas(now);
            case 6: return told.shapes().allCrossings(now);
            case 7: return pointsInside(now);
            case 8: return tape.size();
            default: throw new IndexOutOfBoundsException("what is not 0 to 8");
        }
    }

    // ---- points and shapes

    public int point(int point, int what) throws IndexOutOfBoundsException {
        if (isNoPoint(point) || what < 0 || what > 3) {
            throw new IndexOutOfBoundsException("no such point, or what is not 0 to 3");
        }
        switch (what) {
            case 0: return now.x(point);
            case 1: return now.y(point);
            case 2: return told.shapes().shapesOf(point);
            default: return told.shapes().shapesAround(point, now);
        }
    }

    public int shape(int shape, int what) throws IndexOutOfBoundsException {
        if (isNoShape(shape) || what < 0 || what > 5) {
            throw new IndexOutOfBoundsException("no such shape, or what is not 0 to 5");
        }
        Ring ring = told.shapes().ring(shape);
        switch (what) {
            case 0: return ring.size();
            case 1: return ring.area(now);
            case 2: return Integer.compare(ring.signedArea(now), 0);
            case 3: return told.shapes().crossings(shape, shape, now);
            case 4: return ring.gridPoints(now);
            default: return ring.turnsRight(now) ? 0 : 1;
        }
    }

    public int corner(int shape, int corner) throws IndexOutOfBoundsException {
        if (isNoShape(shape) || corner < 0 || corner >= told.shapes().ring(shape).size()) {
            throw new IndexOutOfBoundsException("no such shape or corner");
        }
        return told.shapes().ring(shape).get(corner);
    }

    public int lies(int point, int shape) throws IndexOutOfBoundsException {
        if (isNoPoint(point) || isNoShape(shape)) {
            throw new IndexOutOfBoundsException("no such point or shape");
        }
        return told.shapes().ring(shape).whereLies(now.x(point), now.y(point), now);
    }

    public int crosses(int a, int b) throws IndexOutOfBoundsException {
        if (isNoShape(a) || isNoShape(b)) {
            throw new IndexOutOfBoundsException("no such shape");
        }
        return told.shapes().crossings(a, b, now);
    }

    public int hull(int shape, int what) throws IndexOutOfBoundsException {
        if (isNoShape(shape) || what < 0 || what > 2) {
            throw new IndexOutOfBoundsException("no such shape, or what is not 0 to 2");
        }
        Ring ring = told.shapes().ring(shape);
        if (what == 2) {
            return ring.widest(now);
        }
        wrapped.wrap(ring, now);
        return what == 0 ? wrapped.size() : wrapped.area(now);
    }

    public int hullCorner(int shape, int corner) throws IndexOutOfBoundsException {
        // No such shape has no corners, and so none of a hull.
        wrapped.wrap(told.shapes().ring(shape), now);
        if (corner < 0 || corner >= wrapped.size()) {
            throw new IndexOutOfBoundsException("no such shape, or corner of its hull");
        }
        return wrapped.get(corner);
    }

    public int nearest(int x, int y) throws IllegalArgumentException {
        if (isNoPlace(x, y)) {
            throw new IllegalArgumentException("x or y is not -999 to 999");
        }
        int best = -1;
        int least = 0;
        for (int i = 0; i < told.pointNames().size(); i++) {
            int far = now.square(i, x, y);
            if (best < 0 || far < least) {
                best = i;
                least = far;
            }
        }
        return best;
    }

    public int enter(int point, int shape) throws IndexOutOfBoundsException {
        if (isNoPoint(point) || isNoShape(shape)) {
            throw new IndexOutOfBoundsException("no such point or shape");
        }
        Ring ring = told.shapes().ring(shape);
        for (int way = 0; way <= LONGEST_WAY; way++) {
            if (ring.isEntered(now.x(point), now.y(point), way, now)) {
                return way;
            }
        }
        return -1;
    }

    // ---- by hand

    public int put(int point, int x, int y) throws IndexOutOfBoundsException, IllegalArgumentException {
        if (isNoPoint(point)) {
            throw new IndexOutOfBoundsException("no such point");
        }
        if (isNoPlace(x, y)) {
            throw new IllegalArgumentException("x or y is not -999 to 999");
        }
        int far = now.square(point, x, y);
        history.keep(now);
        now.place(point, x, y);
        return far;
    }

    public boolean carry(int step) throws IndexOutOfBoundsException {
        if (isNoStep(step)) {
            throw new IndexOutOfBoundsException("no such step");
        }
        if (!told.holds(step, now)) {
            return false;
        }
        history.keep(now);
        told.carryOut(step, now);
        told.countOnce(step);
        return true;
    }

    public int run() {
        history.keep(now);
        int carried = 0;
        for (int i = 0; i < told.stepCount(); i++) {
            if (told.holds(i, now)) {
                told.carryOut(i, now);
                told.countOnce(i);
                carried++;
            }
        }
        return carried;
    }

    public int undo() throws IllegalStateException {
        if (history.size() == 0) {
            throw new IllegalStateException("nothing can be taken back");
        }
        tried.copy(now);
        history.takeBack(now);
        return now.movedFrom(tried);
    }

    public int step(int step, int what) throws IndexOutOfBoundsException {
        if (isNoStep(step) || what < 0 || what > 4) {
            throw new IndexOutOfBoundsException("no such step, or what is not 0 to 4");
        }
        if (what == 3) {
            return told.holds(step, now) ? 1 : 0;
        }
        return told.tellStep(step, what);
    }

    // ---- what would be

    public int would(int what) throws IndexOutOfBoundsException {
        if (what != 0 && (what < 5 || what > 7)) {
            throw new IndexOutOfBoundsException("what is not 0, 5, 6 or 7");
        }
        int carried = tryAllBut(-1);
        switch (what) {
            case 5: return told.shapes().areas(tried);
            case 6: return told.shapes().allCrossings(tried);
            case 7: return pointsInside(tried);
            default: return carried;
        }
    }

    public int without(int step) throws IndexOutOfBoundsException {
        if (isNoStep(step)) {
            throw new IndexOutOfBoundsException("no such step");
        }
        tryAllBut(step);
        return told.shapes().areas(tried);
    }

    public double mean() {
        int shapes = told.shapes().size();
        return shapes <= 0 ? 0 : (double) told.shapes().areas(now) / shapes;
    }

    public long digest() {
        long d = 811;
        for (int what = 0; what <= 8; what++) {
            d = d * 31 + count(what);
        }
        for (int i = 0; i < told.pointNames().size(); i++) {
            for (int what = 0; what <= 3; what++) {
                d = d * 31 + point(i, what);
            }
        }
        for (int i = 0; i < told.shapes().size(); i++) {
            d = digestShape(d, i);
        }
        for (int i = 0; i < told.stepCount(); i++) {
            for (int what = 0; what <= 4; what++) {
                d = d * 31 + step(i, what);
            }
        }
        return d;
    }

    private long digestShape(long start, int shape) {
        long d = start;
        for (int what = 0; what <= 5; what++) {
            d = d * 31 + shape(shape, what);
        }
        for (int what = 0; what <= 2; what++) {
            d = d * 31 + hull(shape, what);
        }
        wrapped.wrap(told.shapes().ring(shape), now);
        for (int i = 0; i < wrapped.size(); i++) {
            d = d * 31 + wrapped.get(i);
        }
        return d;
    }

    /** Carries out all steps but one on a copy of the places, and returns how many were carried out. */
    private int tryAllBut(int left) {
        tried.copy(now);
        int carried = 0;
        for (int i = 0; i < told.stepCount(); i++) {
            if (i != left && told.holds(i, tried)) {
                told.carryOut(i, tried);
                carried++;
            }
        }
        return carried;
    }

    private int pointsInside(Places at) {
        int found = 0;
        for (int i = 0; i < told.pointNames().size(); i++) {
            if (told.shapes().shapesAround(i, at) > 0) {
                found++;
            }
        }
        return found;
    }

    private boolean isNoPoint(int point) {
        return point < 0 || point >= told.pointNames().size();
    }

    private boolean isNoShape(int shape) {
        return shape < 0 || shape >= told.shapes().size();
    }

    private boolean isNoStep(int step) {
        return step < 0 || step >= told.stepCount();
    }

    private static boolean isNoPlace(int x, int y) {
        return x < -FARTHEST || x > FARTHEST || y < -FARTHEST || y > FARTHEST;
    }

    /** The bytes that were fed and not yet read. */
    private static final class Tape {
        private final byte[] bytes = new byte[MOST_BYTES];
        private int size;

        int size() {
            return size;
        }

        void append(int number) {
            for (int shift = 24; shift >= 0; shift -= 8) {
                if (size >= 0 && size < bytes.length) {
                    bytes[size] = (byte) (number >> shift);
                    size++;
                }
            }
        }

        void shorten(int n) {
            if (n >= 0 && n <= size) {
                size = n;
            }
        }

        /** The byte at a position, 0 to 255; -1 where there is none. */
        int get(int i) {
            return i >= 0 && i < size && i < bytes.length ? bytes[i] & 255 : -1;
        }
    }

    /**
     * The tokens of a tape, up to its end or to the first one that can stand in no list; the one that is
     * read next; and the first error that was told of them.
     */
    private static final class Tokens {
        private final int[] kinds = new int[MOST_TOKENS + 1];
        private final int[] starts = new int[MOST_TOKENS + 1];
        private final long[] values = new long[MOST_TOKENS + 1];
        private final long[] keywords = new long[KEYWORD_COUNT];
        private int size;
        private int at;
        private int kind;
        private int error;
        private int errorStart;

        Tokens() {
            int n = 0;
            long code = 0;
            for (int i = 0; i < KEYWORDS.length(); i++) {
                char sign = KEYWORDS.charAt(i);
                if (sign != ' ') {
                    code = joined(code, sign);
                } else if (n < keywords.length) {
                    keywords[n] = code;
                    n++;
                    code = 0;
                }
            }
        }

        void scan(Tape tape) {
            size = 0;
            error = 0;
            errorStart = -1;
            int position = 0;
            for (int n = 0; n < MOST_TOKENS && position >= 0; n++) {
                position = readToken(tape, afterBlanks(tape, position));
            }
            if (position >= 0) {
                // All tokens that may stand are read, so only the end may follow.
                int rest = afterBlanks(tape, position);
                add(tape.get(rest) < 0 ? END : BAD, rest, 0);
            }
            at = 0;
            kind = size > 0 ? kinds[0] : BAD;
        }

        /** What the next token is; BAD from the first error 1 on, which no line goes on with. */
        int kind() {
            return kind;
        }

        /** The value of the next token, if it is a number, or its code, if it is a name. */
        long value() {
            return at >= 0 && at < size && at < values.length ? values[at] : 0;
        }

        void advance() {
            if (kind != BAD) {
                at++;
                kind = at >= 0 && at < size && at < kinds.length ? kinds[at] : BAD;
            }
        }

        /** Tells error 1 at the next token: it goes ahead of the others, and nothing can be read behind it. */
        void fail() {
            if (error != 1) {
                error = 1;
                errorStart = at >= 0 && at < size && at < starts.length ? starts[at] : -1;
            }
            kind = BAD;
        }

        /** Tells one of the errors 2 to 5 at the next token, if none was told; error 1 may still come. */
        void flaw(int number) {
            if (error == 0) {
                error = number;
                errorStart = at >= 0 && at < size && at < starts.length ? starts[at] : -1;
            }
        }

        int error() {
            return error;
        }

        int errorStart() {
            return errorStart;
        }

        private void add(int kind, int start, long value) {
            if (size >= 0 && size < kinds.length && size < starts.length && size < values.length) {
                kinds[size] = kind;
                starts[size] = start;
                values[size] = value;
                size++;
            }
        }

        private static int afterBlanks(Tape tape, int from) {
            int at = from;
            for (int n = 0; n < MOST_BYTES && (tape.get(at) == 32 || tape.get(at) == 10); n++) {
                at++;
            }
            return at;
        }

        /** Returns the position behind the token, or -1 if none can follow it. */
        private int readToken(Tape tape, int start) {
            int sign = tape.get(start);
            if (isLetter(sign)) {
                return readWord(tape, start);
            }
            if (isDigit(sign)) {
                return readNumber(tape, start);
            }
            int kind = symbol(sign, tape.get(start + 1));
            add(kind, start, 0);
            if (kind == END || kind == BAD) {
                return -1;
            }
            return kind == AT_MOST || kind == AT_LEAST ? start + 2 : start + 1;
        }

        private int readWord(Tape tape, int start) {
            long code = 0;
            int length = 0;
            for (int sign = tape.get(start); length <= LONGEST_WORD && (isLetter(sign) || isDigit(sign)); length++) {
                code = joined(code, sign);
                sign = tape.get(start + length + 1);
            }
            if (length > LONGEST_WORD) {
                add(BAD, start, 0);
                return -1;
            }
            add(wordKind(code), start, code);
            return start + length;
        }

        private int readNumber(Tape tape, int start) {
            long number = 0;
            int length = 0;
            for (int sign = tape.get(start); length <= LONGEST_NUMBER && isDigit(sign); length++) {
                number = number * 10 + (sign - '0');
                sign = tape.get(start + length + 1);
            }
            if (length > LONGEST_NUMBER) {
                add(BAD, start, 0);
                return -1;
            }
            add(NUMBER, start, number);
            return start + length;
        }

        private int wordKind(long code) {
            for (int i = 0; i < keywords.length; i++) {
                if (keywords[i] == code) {
                    return POINT + i;
                }
            }
            return NAME;
        }

        private static int symbol(int sign, int next) {
            if (sign < 0) {
                return END;
            }
            if (next == '=' && sign == '<') {
                return AT_MOST;
            }
            if (next == '=' && sign == '>') {
                return AT_LEAST;
            }
            return SYMBOLS.indexOf((char) sign) >= 0 ? sign : BAD;
        }

        /** No two words of up to ten signs have one code, as each sign is one of 36 and never 0. */
        private static long joined(long code, int sign) {
            return code * 37 + (isLetter(sign) ? sign - 'a' + 1 : sign - '0' + 27);
        }

        private static boolean isLetter(int sign) {
            return sign >= 'a' && sign <= 'z';
        }

        private static boolean isDigit(int sign) {
            return sign >= '0' && sign <= '9';
        }
    }

    /** Reads a list; only the list that is being read is changed by it. */
    private static final class Reader {
        private final Tokens tokens = new Tokens();
        private final Ring corners = new Ring();
        private final Step step = new Step();
        private Told draft = new Told();

        /** Returns 0, or the error. */
        int read(Tape tape) {
            tokens.scan(tape);
            draft.clear();
            for (int n = 0; n < MOST_TOKENS && tokens.kind() != END && tokens.kind() != BAD; n++) {
                if (tokens.kind() == POINT) {
                    pointLine();
                } else if (tokens.kind() == SHAPE) {
                    shapeLine();
                } else {
                    stepLine();
                    if (tokens.kind() == WHEN) {
                        tokens.advance();
                        test(0);
                    }
                    endStep();
                }
                expect(';');
            }
            if (tokens.kind() != END) {
                tokens.fail();
            }
            return tokens.error();
        }

        int errorPlace() {
            return tokens.errorStart();
        }

        /** Gives away the list that was read, and takes another one to read the next list into. */
        Told exchange(Told old) {
            Told ready = draft;
            draft = old;
            return ready;
        }

        private void pointLine() {
            tokens.advance();
            long word = newName(draft.pointNames());
            expect(AT);
            int xFrom = draft.code().size();
            sum(0);
            expect(',');
            int yFrom = draft.code().size();
            sum(0);
            if (tokens.error() == 0) {
                draft.addPoint(word, xFrom, yFrom);
            }
        }

        private void shapeLine() {
            tokens.advance();
            long word = newName(draft.shapeNames());
            expect(OF);
            corners.clear();
            for (int n = 0; n < MOST_TOKENS && (n < LEAST_CORNERS || tokens.kind() == NAME); n++) {
                cornerName();
            }
            if (tokens.error() == 0) {
                draft.addShape(word, corners);
            }
        }

        private void cornerName() {
            if (tokens.kind() != NAME) {
                tokens.fail();
                return;
            }
            int point = draft.pointNames().find(tokens.value());
            if (point < 0) {
                tokens.flaw(UNKNOWN);
            } else if (corners.isFull()) {
                tokens.flaw(TOO_MANY);
            } else if (corners.has(point)) {
                tokens.flaw(SAME_CORNER);
            }
            corners.append(point);
            tokens.advance();
        }

        /** Reads a step without its test. */
        private void stepLine() {
            int first = tokens.kind();
            if (first != MOVE && first != TURN && first != FLIP) {
                tokens.fail();
                return;
            }
            if (draft.stepCount() >= MOST_STEPS) {
                tokens.flaw(TOO_MANY);
            }
            tokens.advance();
            step.xFrom = draft.code().size();
            if (first == MOVE) {
                step.sort = 0;
                readMove();
            } else {
                step.sort = first == TURN ? 1 : 2;
                step.yFrom = step.xFrom;
                step.subject = name(draft.shapeNames());
                expect(first == TURN ? ROUND : AT);
                step.pivot = name(draft.pointNames());
            }
            step.testFrom = draft.code().size();
        }

        private void readMove() {
            step.subject = name(draft.pointNames());
            step.pivot = -1;
            expect(BY);
            sum(0);
            expect(',');
            step.yFrom = draft.code().size();
            sum(0);
        }

        private void endStep() {
            step.end = draft.code().size();
            if (tokens.error() == 0) {
                draft.addStep(step);
            }
        }

        private void test(int depth) {
            boolean isOrOpen = false;
            single(depth);
            for (int n = 0; n < MOST_TOKENS && (tokens.kind() == AND || tokens.kind() == OR); n++) {
                boolean isAnd = tokens.kind() == AND;
                // An or waits for its right side, as this may go on with and.
                if (!isAnd && isOrOpen) {
                    emit(OR, 0, 0);
                }
                isOrOpen = isOrOpen || !isAnd;
                tokens.advance();
                single(depth);
                if (isAnd) {
                    emit(AND, 0, 0);
                }
            }
            if (isOrOpen) {
                emit(OR, 0, 0);
            }
        }

        private void single(int depth) {
            int deep = depth;
            for (; deep <= DEEPEST && tokens.kind() == NOT; deep++) {
                open(deep);
            }
            if (tokens.kind() == '[') {
                if (open(deep)) {
                    test(deep + 1);
                    expect(']');
                }
            } else if (tokens.kind() == INSIDE) {
                tokens.advance();
                int point = name(draft.pointNames());
                emit(INSIDE, point, name(draft.shapeNames()));
            } else {
                sum(deep);
                int relation = tokens.kind();
                if (isRelation(relation)) {
                    tokens.advance();
                    sum(deep);
                    emit(relation, 0, 0);
                } else {
                    tokens.fail();
                }
            }
            for (int n = depth; n < deep; n++) {
                emit(NOT, 0, 0);
            }
        }

        private void sum(int depth) {
            int waiting = 0;
            value(depth);
            for (int n = 0; n < MOST_TOKENS && isOperator(tokens.kind()); n++) {
                int operator = tokens.kind();
                tokens.advance();
                if (operator == '*' || operator == '/') {
                    value(depth);
                    emit(operator, 0, 0);
                } else {
                    // A + or - waits for its right side, as this may go on with * or /.
                    if (waiting != 0) {
                        emit(waiting, 0, 0);
                    }
                    waiting = operator;
                    value(depth);
                }
            }
            if (waiting != 0) {
                emit(waiting, 0, 0);
            }
        }

        private void value(int depth) {
            int deep = depth;
            for (; deep <= DEEPEST && tokens.kind() == '-'; deep++) {
                open(deep);
            }
            int first = tokens.kind();
            if (first == NUMBER) {
                emit(NUMBER, (int) tokens.value(), 0);
                tokens.advance();
            } else if (first == X || first == Y) {
                tokens.advance();
                emit(first, name(draft.pointNames()), 0);
            } else if (first == AREA) {
                tokens.advance();
                emit(first, name(draft.shapeNames()), 0);
            } else if (first == CROSSES) {
                tokens.advance();
                int shape = name(draft.shapeNames());
                emit(first, shape, name(draft.shapeNames()));
            } else if (first == '(') {
                if (open(deep)) {
                    sum(deep + 1);
                    expect(')');
                }
            } else if (first == MIN || first == MAX) {
                tokens.advance();
                if (tokens.kind() == '(' && open(deep)) {
                    sum(deep + 1);
                    expect(',');
                    sum(deep + 1);
                    expect(')');
                    emit(first, 0, 0);
                } else {
                    tokens.fail();
                }
            } else {
                tokens.fail();
            }
            for (int n = depth; n < deep; n++) {
                emit(NEGATE, 0, 0);
            }
        }

        private static boolean isOperator(int kind) {
            return kind == '+' || kind == '-' || kind == '*' || kind == '/';
        }

        private static boolean isRelation(int kind) {
            return kind == '<' || kind == '>' || kind == '=' || kind == AT_MOST || kind == AT_LEAST;
        }

        /** Goes behind a token that makes the depth greater, and returns whether it may. */
        private boolean open(int depth) {
            if (depth >= DEEPEST) {
                tokens.fail();
                return false;
            }
            tokens.advance();
            return true;
        }

        /** Reads the name of a point or shape told ahead, and returns its number, or -1. */
        private int name(Names names) {
            if (tokens.kind() != NAME) {
                tokens.fail();
                return -1;
            }
            int found = names.find(tokens.value());
            if (found < 0) {
                tokens.flaw(UNKNOWN);
            }
            tokens.advance();
            return found;
        }

        /** Reads the name of a point or shape that is told here, and returns its code. */
        private long newName(Names names) {
            if (tokens.kind() != NAME) {
                tokens.fail();
                return 0;
            }
            long word = tokens.value();
            if (names.find(word) >= 0) {
                tokens.flaw(TWICE_TOLD);
            } else if (names.isFull()) {
                tokens.flaw(TOO_MANY);
            }
            tokens.advance();
            return word;
        }

        private void expect(int wanted) {
            if (tokens.kind() == wanted) {
                tokens.advance();
            } else {
                tokens.fail();
            }
        }

        private void emit(int operation, int first, int second) {
            draft.code().add(operation, first, second);
        }
    }

    /** The codes of the names of all points, or of all shapes. */
    private static final class Names {
        private final long[] codes = new long[MOST_POINTS];
        private final int most;
        private int size;

        Names(int most) {
            this.most = most;
        }

        int size() {
            return size;
        }

        boolean isFull() {
            return size >= most;
        }

        void clear() {
            size = 0;
        }

        int find(long code) {
            for (int i = 0; i < size && i < codes.length; i++) {
                if (codes[i] == code) {
                    return i;
                }
            }
            return -1;
        }

        void add(long code) {
            if (size >= 0 && size < most && size < codes.length) {
                codes[size] = code;
                size++;
            }
        }
    }

    /** All that a list tells, and how often its steps were carried out. */
    private static final class Told {
        private final Names pointNames = new Names(MOST_POINTS);
        private final Names shapeNames = new Names(MOST_SHAPES);
        private final Shapes shapes = new Shapes();
        private final Places first = new Places();
        private final Code code = new Code();
        private final Step[] steps = new Step[MOST_STEPS];
        private int stepCount;

        Told() {
            for (int i = 0; i < steps.length; i++) {
                steps[i] = new Step();
            }
        }

        void clear() {
            pointNames.clear();
            shapeNames.clear();
            shapes.clear();
            first.clear();
            code.cut(0);
            stepCount = 0;
        }

        Names pointNames() {
            return pointNames;
        }

        Names shapeNames() {
            return shapeNames;
        }

        Shapes shapes() {
            return shapes;
        }

        Places first() {
            return first;
        }

        Code code() {
            return code;
        }

        int stepCount() {
            return stepCount;
        }

        /** Its two sums are the last ones of the code, and go out of it as they are reckoned. */
        void addPoint(long word, int xFrom, int yFrom) {
            int x = code.reckon(xFrom, yFrom, shapes, first);
            int y = code.reckon(yFrom, code.size(), shapes, first);
            first.place(pointNames.size(), x, y);
            pointNames.add(word);
            code.cut(xFrom);
        }

        void addShape(long word, Ring corners) {
            shapeNames.add(word);
            shapes.add(corners);
        }

        void addStep(Step made) {
            if (stepCount >= 0 && stepCount < steps.length && steps[stepCount] != null) {
                steps[stepCount].copy(made);
                stepCount++;
            }
        }

        boolean holds(int i, Places at) {
            Step step = stepOf(i);
            if (step == null) {
                return false;
            }
            return step.testFrom >= step.end || code.reckon(step.testFrom, step.end, shapes, at) != 0;
        }

        void carryOut(int i, Places at) {
            Step step = stepOf(i);
            if (step == null) {
                return;
            }
            if (step.sort == 0) {
                // Both sums are reckoned ahead of the move, so that y does not see the new x.
                long x = at.x(step.subject) + (long) code.reckon(step.xFrom, step.yFrom, shapes, at);
                long y = at.y(step.subject) + (long) code.reckon(step.yFrom, step.testFrom, shapes, at);
                at.place(step.subject, x, y);
            } else if (step.sort == 1) {
                shapes.ring(step.subject).turnRound(step.pivot, at);
            } else {
                shapes.ring(step.subject).flipAt(step.pivot, at);
            }
        }

        void countOnce(int i) {
            Step step = stepOf(i);
            if (step != null) {
                step.times++;
            }
        }

        int timesInAll() {
            int all = 0;
            for (int i = 0; i < stepCount; i++) {
                all += tellStep(i, 4);
            }
            return all;
        }

        int tellStep(int i, int what) {
            Step step = stepOf(i);
            if (step == null) {
                return 0;
            }
            switch (what) {
                case 0: return step.sort;
                case 1: return step.subject;
                case 2: return step.pivot;
                default: return step.times;
            }
        }

        private Step stepOf(int i) {
            return i >= 0 && i < stepCount && i < steps.length ? steps[i] : null;
        }
    }

    /** A line with move (sort 0), turn (1) or flip (2), and where its sums and its test stand in the code. */
    private static final class Step {
        private int sort;
        private int subject;
        private int pivot;
        private int xFrom;
        private int yFrom;
        private int testFrom;
        private int end;
        private int times;

        /** Takes over a step that was not carried out yet. */
        void copy(Step other) {
            sort = other.sort;
            subject = other.subject;
            pivot = other.pivot;
            xFrom = other.xFrom;
            yFrom = other.yFrom;
            testFrom = other.testFrom;
            end = other.end;
            times = 0;
        }
    }

    /** Sums and tests, each operation behind what it works on, so that a stack of numbers reckons them. */
    private static final class Code {
        // Each depth leaves at most three numbers waiting, so no list needs so many.
        private static final int STACK_ROOM = 64;
        private final int[] operations = new int[MOST_TOKENS];
        private final int[] firsts = new int[MOST_TOKENS];
        private final int[] seconds = new int[MOST_TOKENS];
        private final int[] stack = new int[STACK_ROOM];
        private int size;
        private int top;

        int size() {
            return size;
        }

        void cut(int n) {
            if (n >= 0 && n <= size) {
                size = n;
            }
        }

        void add(int operation, int first, int second) {
            if (size >= 0 && size < MOST_TOKENS) {
                operations[size] = operation;
                firsts[size] = first;
                seconds[size] = second;
                size++;
            }
        }

        int reckon(int from, int to, Shapes shapes, Places at) {
            top = 0;
            for (int i = from; i >= 0 && i < to && i < size && i < MOST_TOKENS; i++) {
                int first = firsts[i];
                switch (operations[i]) {
                    case NUMBER:
                        push(first);
                        break;
                    case X:
                        push(at.x(first));
                        break;
                    case Y:
                        push(at.y(first));
                        break;
                    case AREA:
                        push(shapes.ring(first).area(at));
                        break;
                    case CROSSES:
                        push(shapes.crossings(first, seconds[i], at));
                        break;
                    case INSIDE:
                        push(shapes.ring(seconds[i]).whereLies(at.x(first), at.y(first), at) > 0 ? 1 : 0);
                        break;
                    case NEGATE:
                        push(-pop());
                        break;
                    case NOT:
                        push(1 - pop());
                        break;
                    default:
                        int right = pop();
                        push(result(operations[i], pop(), right));
                        break;
                }
            }
            return pop();
        }

        private static int result(int operation, int left, int right) {
            switch (operation) {
                case '+': return left + right;
                case '-': return left - right;
                case '*': return left * right;
                case '/': return right == 0 ? 0 : left / right;
                case MIN: return Math.min(left, right);
                case MAX: return Math.max(left, right);
                case AND: return left & right;
                case OR: return left | right;
                default: return isTrue(operation, left, right) ? 1 : 0;
            }
        }

        private static boolean isTrue(int relation, int left, int right) {
            switch (relation) {
                case '<': return left < right;
                case '>': return left > right;
                case AT_MOST: return left <= right;
                case AT_LEAST: return left >= right;
                default: return left == right;
            }
        }

        private void push(int number) {
            if (top >= 0 && top < stack.length) {
                stack[top] = number;
                top++;
            }
        }

        private int pop() {
            if (top <= 0 || top > stack.length) {
                return 0;
            }
            top--;
            return stack[top];
        }
    }

    /** The corners of all shapes. */
    private static final class Shapes {
        private final Ring none = new Ring();
        private final Ring[] rings = new Ring[MOST_SHAPES];
        private int size;

        Shapes() {
            for (int i = 0; i < rings.length; i++) {
                rings[i] = new Ring();
            }
        }

        int size() {
            return size;
        }

        void clear() {
            size = 0;
        }

        void add(Ring corners) {
            if (size >= 0 && size < rings.length && rings[size] != null) {
                rings[size].copy(corners);
                size++;
            }
        }

        /** The corners of a shape; none, if there is no such shape. */
        Ring ring(int shape) {
            Ring found = shape >= 0 && shape < size && shape < rings.length ? rings[shape] : null;
            return found == null ? none : found;
        }

        int areas(Places at) {
            int all = 0;
            for (int i = 0; i < size; i++) {
                all += ring(i).area(at);
            }
            return all;
        }

        /** The pairs of edges that cross, of two shapes or of one shape with itself. */
        int crossings(int a, int b, Places at) {
            Ring one = ring(a);
            Ring other = ring(b);
            int found = 0;
            for (int i = 0; i < one.size(); i++) {
                // A pair of edges of the same shape counts once.
                for (int k = a == b ? i + 1 : 0; k < other.size(); k++) {
                    if (at.cross(one.get(i), one.next(i), other.get(k), other.next(k))) {
                        found++;
                    }
                }
            }
            return found;
        }

        int allCrossings(Places at) {
            int all = 0;
            for (int a = 0; a < size; a++) {
                for (int b = a; b < size; b++) {
                    all += crossings(a, b, at);
                }
            }
            return all;
        }

        /** How many shapes have a point as a corner. */
        int shapesOf(int point) {
            int found = 0;
            for (int i = 0; i < size; i++) {
                if (ring(i).has(point)) {
                    found++;
                }
            }
            return found;
        }

        /** Inside of how many shapes a point lies. */
        int shapesAround(int point, Places at) {
            int found = 0;
            for (int i = 0; i < size; i++) {
                if (ring(i).whereLies(at.x(point), at.y(point), at) > 0) {
                    found++;
                }
            }
            return found;
        }
    }

    /** Points in their order, behind the last one the first again: the corners of a shape, or of a hull. */
    private static final class Ring {
        // Far above the steps that a greatest common divisor of two numbers up to 1998 takes.
        private static final int MOST_DIVISIONS = 100;
        private final int[] points = new int[MOST_CORNERS];
        private int size;

        int size() {
            return size;
        }

        boolean isFull() {
            return size >= points.length;
        }

        void clear() {
            size = 0;
        }

        void append(int point) {
            if (size >= 0 && size < points.length) {
                points[size] = point;
                size++;
            }
        }

        void copy(Ring other) {
            clear();
            for (int i = 0; i < other.size(); i++) {
                append(other.get(i));
            }
        }

        int get(int i) {
            return i >= 0 && i < size && i < points.length ? points[i] : -1;
        }

        /** The point behind the one at i. */
        int next(int i) {
            int k = i + 1 < size ? i + 1 : 0;
            return k >= 0 && k < size && k < points.length ? points[k] : -1;
        }

        boolean has(int point) {
            for (int i = 0; i < size; i++) {
                if (get(i) == point) {
                    return true;
                }
            }
            return false;
        }

        int area(Places at) {
            return Math.abs(signedArea(at));
        }

        int signedArea(Places at) {
            int all = 0;
            for (int i = 0; i < size; i++) {
                int a = get(i);
                int b = next(i);
                all += at.x(a) * at.y(b) - at.x(b) * at.y(a);
            }
            return all;
        }

        int gridPoints(Places at) {
            int all = 0;
            for (int i = 0; i < size; i++) {
                int a = get(i);
                int b = next(i);
                all += divisor(Math.abs(at.x(b) - at.x(a)), Math.abs(at.y(b) - at.y(a)));
            }
            return all;
        }

        /** Whether of some three corners that follow each other the last one lies right of the first two. */
        boolean turnsRight(Places at) {
            for (int i = 0; i < size; i++) {
                int last = next(i + 1 < size ? i + 1 : 0);
                if (at.side(get(i), next(i), at.x(last), at.y(last)) < 0) {
                    return true;
                }
            }
            return false;
        }

        /** 1 if a place lies inside, 0 if on an edge, -1 otherwise. */
        int whereLies(int x, int y, Places at) {
            boolean isOdd = false;
            for (int i = 0; i < size; i++) {
                if (at.isOnEdge(get(i), next(i), x, y)) {
                    return 0;
                }
                if (at.isEdgeToRight(get(i), next(i), x, y)) {
                    isOdd = !isOdd;
                }
            }
            return isOdd ? 1 : -1;
        }

        /** Whether some place that is just so many steps away from a place lies inside. */
        boolean isEntered(int x, int y, int way, Places at) {
            for (int dx = -way; dx <= way; dx++) {
                int dy = way - Math.abs(dx);
                if (whereLies(x + dx, y + dy, at) > 0 || whereLies(x + dx, y - dy, at) > 0) {
                    return true;
                }
            }
            return false;
        }

        /** The greatest square of how far two of the points are from each other. */
        int widest(Places at) {
            int most = 0;
            for (int i = 0; i < size; i++) {
                for (int k = 0; k < i; k++) {
                    most = Math.max(most, at.square(get(i), at.x(get(k)), at.y(get(k))));
                }
            }
            return most;
        }

        void turnRound(int pivot, Places at) {
            int px = at.x(pivot);
            int py = at.y(pivot);
            for (int i = 0; i < size; i++) {
                int dx = at.x(get(i)) - px;
                int dy = at.y(get(i)) - py;
                at.place(get(i), px - dy, py + dx);
            }
        }

        void flipAt(int pivot, Places at) {
            int px = at.x(pivot);
            for (int i = 0; i < size; i++) {
                int dx = at.x(get(i)) - px;
                at.place(get(i), px - dx, at.y(get(i)));
            }
        }

        /** Becomes the hull of the corners, from its first corner round to the left. */
        void wrap(Ring corners, Places at) {
            clear();
            int start = firstOf(corners, at);
            int corner = start;
            for (int n = 0; n < MOST_CORNERS && corner >= 0; n++) {
                append(corner);
                corner = rightmost(corners, corner, at);
                if (corner == start) {
                    return;
                }
            }
        }

        /** The corner with the least x, then the least y, then the smallest number; -1 without corners. */
        private static int firstOf(Ring corners, Places at) {
            int best = -1;
            for (int i = 0; i < corners.size(); i++) {
                int point = corners.get(i);
                if (best < 0 || at.isAhead(point, best)) {
                    best = point;
                }
            }
            return best;
        }

        /** The corner that has none to its right, seen from another one; -1 if all lie at one place. */
        private static int rightmost(Ring corners, int from, Places at) {
            int best = -1;
            for (int i = 0; i < corners.size(); i++) {
                int point = corners.get(i);
                if (at.square(from, at.x(point), at.y(point)) > 0
                        && (best < 0 || at.isBetterHull(from, best, point))) {
                    best = point;
                }
            }
            return best;
        }

        private static int divisor(int one, int other) {
            int a = one;
            int b = other;
            for (int n = 0; n < MOST_DIVISIONS && b != 0; n++) {
                int rest = a % b;
                a = b;
                b = rest;
            }
            return a;
        }
    }

    /** Where all points lie. */
    private static final class Places {
        private final int[] xs = new int[MOST_POINTS];
        private final int[] ys = new int[MOST_POINTS];

        int x(int point) {
            return point >= 0 && point < MOST_POINTS ? xs[point] : 0;
        }

        int y(int point) {
            return point >= 0 && point < MOST_POINTS ? ys[point] : 0;
        }

        void place(int point, long x, long y) {
            if (point >= 0 && point < MOST_POINTS) {
                xs[point] = held(x);
                ys[point] = held(y);
            }
        }

        void clear() {
            for (int i = 0; i < MOST_POINTS; i++) {
                place(i, 0, 0);
            }
        }

        void copy(Places other) {
            for (int i = 0; i < MOST_POINTS; i++) {
                place(i, other.x(i), other.y(i));
            }
        }

        int movedFrom(Places other) {
            int moved = 0;
            for (int i = 0; i < MOST_POINTS; i++) {
                if (x(i) != other.x(i) || y(i) != other.y(i)) {
                    moved++;
                }
            }
            return moved;
        }

        /** More than 0, if a place lies left of the line from a to b, less, if right, 0, if on it. */
        int side(int a, int b, int x, int y) {
            if (a < 0 || a >= MOST_POINTS || b < 0 || b >= MOST_POINTS) {
                return 0;
            }
            return (xs[b] - xs[a]) * (y - ys[a]) - (ys[b] - ys[a]) * (x - xs[a]);
        }

        /** Whether the edge from a to b crosses the one from c to d. */
        boolean cross(int a, int b, int c, int d) {
            int sideC = side(a, b, x(c), y(c));
            int sideD = side(a, b, x(d), y(d));
            int sideA = side(c, d, x(a), y(a));
            int sideB = side(c, d, x(b), y(b));
            return (sideC > 0 && sideD < 0 || sideC < 0 && sideD > 0)
                && (sideA > 0 && sideB < 0 || sideA < 0 && sideB > 0);
        }

        boolean isOnEdge(int a, int b, int x, int y) {
            return side(a, b, x, y) == 0
                && x >= Math.min(x(a), x(b)) && x <= Math.max(x(a), x(b))
                && y >= Math.min(y(a), y(b)) && y <= Math.max(y(a), y(b));
        }

        boolean isEdgeToRight(int a, int b, int x, int y) {
            if (y(a) > y == y(b) > y) {
                return false;
            }
            int side = side(a, b, x, y);
            return y(b) > y ? side > 0 : side < 0;
        }

        int square(int point, int x, int y) {
            int dx = x(point) - x;
            int dy = y(point) - y;
            return dx * dx + dy * dy;
        }

        /** Whether a comes ahead of b as the first corner of a hull. */
        boolean isAhead(int a, int b) {
            if (x(a) != x(b)) {
                return x(a) < x(b);
            }
            return y(a) != y(b) ? y(a) < y(b) : a < b;
        }

        /** Whether a hull that comes to from rather goes on to point than to best. */
        boolean isBetterHull(int from, int best, int point) {
            int side = side(from, best, x(point), y(point));
            if (side != 0) {
                return side < 0;
            }
            int gain = square(from, x(point), y(point)) - square(from, x(best), y(best));
            return gain != 0 ? gain > 0 : point < best;
        }

        private static int held(long number) {
            return (int) Math.max(-FARTHEST, Math.min(FARTHEST, number));
        }
    }

    /** Where the points lay ahead of the latest things that were done. */
    private static final class History {
        private final Places[] kept = new Places[MOST_KEPT];
        private int next;
        private int size;

        History() {
            for (int i = 0; i < kept.length; i++) {
                kept[i] = new Places();
            }
        }

        int size() {
            return size;
        }

        void clear() {
            next = 0;
            size = 0;
        }

        void keep(Places at) {
            if (next >= 0 && next < kept.length && kept[next] != null) {
                kept[next].copy(at);
            }
            // The room is used round, so that the oldest one goes first.
            next = next + 1 < kept.length ? next + 1 : 0;
            size = Math.min(size + 1, MOST_KEPT);
        }

        void takeBack(Places at) {
            next = next > 0 ? next - 1 : kept.length - 1;
            size = Math.max(size - 1, 0);
            if (next >= 0 && next < kept.length && kept[next] != null) {
                at.copy(kept[next]);
            }
        }
    }
}
