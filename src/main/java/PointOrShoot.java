import java.util.Arrays;

/** An end of bowls: what ../shared/DOC.md promises, number by number. */
public final class PointOrShoot {
    public static final int NONE = -1;

    private static final long NO_VALUE = -2000000000000000000L;
    /** No value is as far from 0 as that. */
    private static final long MORE_THAN_ANY = 4000000000000000000L;
    private static final int NO_POINTS = -100;
    private static final int NOT_THERE = -2;
    private static final int NEAREST_FAR = 6;
    private static final int FARTHEST_FAR = 10;
    private static final int FARS = 5;
    private static final int OVER = 2;
    private static final int POINTING = 1;
    private static final int SHOOTING = 2;
    private static final int RULES = 4;
    private static final int MOST_POINTS = 3;
    private static final int MOST_THROWS = 6;
    private static final int MATCH = 13;
    private static final int MILLION = 1000000;
    private static final int MOST_TEXT = 240;
    private static final int MOST_GROUND_TEXT = 120;

    private int farNow = 8;
    private int drawing = 1;
    private final Tape tape = new Tape();
    private final ClauseReader reader = new ClauseReader();
    private final Ends ends = new Ends();
    private final Codes codes = ends.codes;
    private final Program lawNow = ends.law;
    private final Program[] rules = ends.rules;
    private final Match matches = new Match();
    private final Log logged = new Log();
    private final Heights heights = new Heights();
    private final Book shots = new Book();
    private final Field field = new Field();

    private boolean isKept;
    private int keptFar;
    private int keptDrawing;
    private final Book keptShots = new Book();
    private final Field keptField = new Field();

    public PointOrShoot() {
    }

    public boolean far(int n) {
        if (!isFar(n)) {
            return false;
        }
        farNow = n;
        logged.forget();
        return true;
    }

    public int feed(int a, int b, int c, int d, int e) {
        if (!tape.hasRoomForFive()) {
            return NONE;
        }
        tape.addNumber(a);
        tape.addNumber(b);
        tape.addNumber(c);
        tape.addNumber(d);
        tape.addNumber(e);
        return tape.size;
    }

    public int law(int n) {
        if (!canTake(n, MOST_TEXT)) {
            return NONE;
        }
        int answer = reader.readText(tape.bytes, n, true);
        tape.size = 0;
        if (answer > 0) {
            lawNow.copyFrom(reader.out);
            ends.forgetLaw();
            logged.forget();
        }
        return answer;
    }

    public int rule(int k, int n) {
        if (!isRule(k) || !canTake(n, MOST_TEXT)) {
            return NONE;
        }
        int answer = reader.readText(tape.bytes, n, false);
        tape.size = 0;
        if (answer > 0) {
            rules[k].copyFrom(reader.out);
            ends.forgetWorths();
        }
        return answer;
    }

    public int ground(int n) {
        if (!canTake(n, MOST_GROUND_TEXT)) {
            return NONE;
        }
        int answer = heights.readText(tape.bytes, n);
        tape.size = 0;
        return answer;
    }

    public int turn(int code, int other, int last) {
        int p = codes.placeOf(code);
        int q = codes.placeOf(other);
        return isState(p, q, last) ? codes.whoPlays(p, q, last) : NONE;
    }

    public int points(int code, int other) {
        int p = codes.placeOf(code);
        int q = codes.placeOf(other);
        return p < 0 || q < 0 ? NO_POINTS : codes.pointsNow(p, q);
    }

    public int chance(int code, int other, int last, int throwing, int what) {
        int p = codes.placeOf(code);
        int q = codes.placeOf(other);
        boolean isPart = throwing == POINTING && what >= 0 && what <= 3
                || throwing == SHOOTING && what >= 4 && what <= 6;
        if (!isState(p, q, last) || !isPart) {
            return NONE;
        }
        int side = codes.whoPlays(p, q, last);
        if (side == OVER || throwing == SHOOTING && !codes.canShoot(p, q, side)) {
            return NONE;
        }
        ends.standAt(farNow);
        return ends.hundredths(p, q, last, what);
    }

    public long best(int code, int other, int last, int what) {
        int p = codes.placeOf(code);
        int q = codes.placeOf(other);
        if (!isState(p, q, last) || !isValueOrThrow(what)) {
            return NO_VALUE;
        }
        ends.standAt(farNow);
        ends.aimBy(NONE, NONE);
        return ends.valueOrThrow(p, q, last, what);
    }

    public long likely(int code, int other, int last, int points) {
        int p = codes.placeOf(code);
        int q = codes.placeOf(other);
        if (!isState(p, q, last) || !isCount(points)) {
            return NONE;
        }
        ends.standAt(farNow);
        return ends.chanceOfCount(p, q, last, points);
    }

    public long goFor(int code, int other, int last, int points, int what) {
        int p = codes.placeOf(code);
        int q = codes.placeOf(other);
        if (!isState(p, q, last) || !isCount(points) || !isValueOrThrow(what)) {
            return NO_VALUE;
        }
        ends.standAt(farNow);
        ends.aimAtLeast(points);
        return ends.valueOrThrow(p, q, last, what);
    }

    public long toThrow(int first, int what) {
        if (!isSide(first) || !isValueOrThrow(what)) {
            return NO_VALUE;
        }
        int chosen = NEAREST_FAR;
        long value = ends.beginValue(NEAREST_FAR, first);
        for (int f = NEAREST_FAR + 1; f <= FARTHEST_FAR; f++) {
            long there = ends.beginValue(f, first);
            if (first == 0 ? there > value : there < value) {
                chosen = f;
                value = there;
            }
        }
        return what == 0 ? chosen : value;
    }

    public long by(int j, int k, int code, int other, int last, int what) {
        int p = codes.placeOf(code);
        int q = codes.placeOf(other);
        if (!canPlayBy(j) || !canPlayBy(k) || !isState(p, q, last) || !isValueOrThrow(what)) {
            return NO_VALUE;
        }
        ends.standAt(farNow);
        ends.aimBy(j, k);
        return ends.valueOrThrow(p, q, last, what);
    }

    public long lastBall(int what) {
        if (what < 0 || what > 2) {
            return NO_VALUE;
        }
        long value = what == 1 ? 0 : ends.beginValue(farNow, 1);
        if (what == 2) {
            return value;
        }
        long firstOf0 = ends.beginValue(farNow, 0);
        return what == 1 ? firstOf0 : value - firstOf0;
    }

    public long game(int what) {
        if (what < 0 || what > 3) {
            return NONE;
        }
        int chosen = NONE;
        long value = 0;
        for (int mine = 0; mine < RULES; mine++) {
            if (isTold(mine)) {
                long worst = worstFor(mine, what < 2);
                if (chosen == NONE || (what < 2 ? worst > value : worst < value)) {
                    chosen = mine;
                    value = worst;
                }
            }
        }
        if (chosen == NONE) {
            return NOT_THERE;
        }
        return what == 0 || what == 2 ? value : chosen;
    }

    public int match(int a, int b, int first) {
        if (!isScore(a) || !isScore(b) || a == MATCH && b == MATCH || !isSide(first)) {
            return NONE;
        }
        if (a == MATCH) {
            return MILLION;
        }
        if (b == MATCH) {
            return 0;
        }
        return matches.chanceOf0(ends.beginCounts(farNow), a, b, first);
    }

    public int drawn(int j, int k, int code, int other, int last) {
        int p = codes.placeOf(code);
        int q = codes.placeOf(other);
        if (!canPlayBy(j) || !canPlayBy(k) || !isState(p, q, last)) {
            return NO_POINTS;
        }
        ends.standAt(farNow);
        ends.aimBy(j, k);
        logged.begin(p, q, last);
        for (int i = 0; i < MOST_THROWS && !logged.isOver(codes); i++) {
            drawThrow();
        }
        return codes.pointsNow(logged.lastOf0(), logged.lastOf1());
    }

    public int log(int what) {
        return logged.tell(codes, what);
    }

    public long wrong(int i, int what) {
        if (what < 0 || what > 2 || logged.size < 1 || what == 0 && (i < 0 || i >= logged.size)) {
            return NONE;
        }
        ends.standAt(farNow);
        ends.aimBy(NONE, NONE);
        if (what == 0) {
            return lossIn(i);
        }
        int worst = 0;
        long most = lossIn(0);
        for (int place = 1; place < logged.size; place++) {
            long loss = lossIn(place);
            if (loss > most) {
                worst = place;
                most = loss;
            }
        }
        return what == 1 ? worst : most;
    }

    public int shot(int far, boolean hit) {
        return isFar(far) && shots.hasRoom() ? shots.add(far, hit) : NONE;
    }

    public int book(int what) {
        return shots.tell(what);
    }

    public int fits(int at6, int less, int otherAt6, int otherLess) {
        if (!isGuess(at6, less) || !isGuess(otherAt6, otherLess)) {
            return NONE;
        }
        return shots.better(at6, less, otherAt6, otherLess);
    }

    public int roll(int x, int y, int way, int push, int what) {
        if (!isSpot(x, y) || way < 0 || way > 3 || push < 0 || push > 9 || what < 0 || what > 1) {
            return NONE;
        }
        heights.push(x, y, way, push);
        return what == 0 ? heights.stop : heights.went;
    }

    public int lay(int x, int y, int what) {
        if (!isSpot(x, y) || what < 0 || what > 2) {
            return NONE;
        }
        if (!heights.layNear(x, y)) {
            return NOT_THERE;
        }
        if (what == 2) {
            return heights.laidStop;
        }
        return what == 0 ? heights.laidY : heights.laidPush;
    }

    public int ball(int side, int x, int y) {
        return isSide(side) && isPlace(x, y) && field.hasRoom() ? field.add(side, x, y) : NONE;
    }

    public boolean pig(int x, int y) {
        if (!isPlace(x, y)) {
            return false;
        }
        field.pigX = x;
        field.pigY = y;
        return true;
    }

    public boolean gone(int i) {
        if (i < 0 || i >= field.size) {
            return false;
        }
        field.remove(i);
        return true;
    }

    public int measured(int what) {
        switch (what) {
            case 0:
                return field.whose();
            case 1:
                return field.pointsWithout(NONE);
            case 2:
                return field.nearestBall();
            case 3:
                return field.nearestSquare();
            default:
                return NO_POINTS;
        }
    }

    public int toShoot(int side) {
        return isSide(side) ? field.ballToShoot(side) : NONE;
    }

    public boolean seed(int x) {
        if (x < 0 || x > 65535) {
            return false;
        }
        drawing = x;
        return true;
    }

    public int keep() {
        isKept = true;
        keptFar = farNow;
        keptDrawing = drawing;
        keptShots.copyFrom(shots);
        keptField.copyFrom(field);
        return shots.size;
    }

    public boolean undo() {
        if (!isKept) {
            return false;
        }
        farNow = keptFar;
        drawing = keptDrawing;
        shots.copyFrom(keptShots);
        field.copyFrom(keptField);
        logged.forget();
        return true;
    }

    public int check(int n) {
        if (n < 0 || n > Heights.WIDTH || 4 * n > tape.size) {
            return NOT_THERE;
        }
        tape.size = 0;
        for (int i = 0; i < n; i++) {
            if (tape.numberAt(i) != heights.heightAt(i)) {
                return i;
            }
        }
        return NONE;
    }

    public int count(int what) {
        switch (what) {
            case 0:
                return farNow;
            case 1:
                return lawNow.clauses;
            case 2:
                return tape.size;
            case 3:
                return drawing;
            case 4:
                return field.size;
            case 5:
                return 100 * field.pigY + field.pigX;
            default:
                return countOfMany(what);
        }
    }

    private int countOfMany(int what) {
        if (what >= 10 && what < 10 + RULES) {
            return rules[what - 10].clauses;
        }
        if (what >= 20 && what < 20 + field.size) {
            return field.sideOf(what - 20);
        }
        if (what >= 40 && what < 40 + field.size) {
            return field.placeOf(what - 40);
        }
        if (what >= 100 && what < 100 + Heights.SPOTS) {
            return heights.heightAt(what - 100);
        }
        return NONE;
    }

    private boolean canTake(int n, int most) {
        return n >= 1 && n <= most && n <= tape.size;
    }

    private boolean isState(int p, int q, int last) {
        return p >= 0 && q >= 0 && isSide(last);
    }

    private boolean isTold(int k) {
        return isRule(k) && rules[k].clauses > 0;
    }

    private boolean canPlayBy(int k) {
        return k == NONE || isTold(k);
    }

    private static boolean isRule(int k) {
        return k >= 0 && k < RULES;
    }

    private static boolean isFar(int n) {
        return n >= NEAREST_FAR && n <= FARTHEST_FAR;
    }

    private static boolean isSide(int side) {
        return side == 0 || side == 1;
    }

    private static boolean isValueOrThrow(int what) {
        return what == 0 || what == 1;
    }

    private static boolean isCount(int points) {
        return points >= -MOST_POINTS && points <= MOST_POINTS;
    }

    private static boolean isScore(int score) {
        return score >= 0 && score <= MATCH;
    }

    private static boolean isGuess(int at6, int less) {
        return at6 >= 0 && at6 <= 10 && less >= 0 && less <= 3;
    }

    private static boolean isSpot(int x, int y) {
        return x >= 0 && x < Heights.WIDTH && y >= 0 && y < Heights.WIDTH;
    }

    private static boolean isPlace(int x, int y) {
        return x >= 0 && x <= 99 && y >= 0 && y <= 99;
    }

    /** The worst value over the other side's rules, with side 0 (else side 1) by one. */
    private long worstFor(int mine, boolean isSide0) {
        long worst = isSide0 ? MORE_THAN_ANY : -MORE_THAN_ANY;
        for (int theirs = 0; theirs < RULES; theirs++) {
            if (isTold(theirs)) {
                long value = ends.valueOfGame(farNow, isSide0 ? mine : theirs, isSide0 ? theirs : mine);
                worst = isSide0 ? Math.min(worst, value) : Math.max(worst, value);
            }
        }
        return worst;
    }

    private void drawThrow() {
        int p = logged.lastOf0();
        int q = logged.lastOf1();
        int last = logged.lastSide();
        int side = codes.whoPlays(p, q, last);
        int throwing = ends.throwAt(p, q, last);
        drawing = (25173 * drawing + 13849) % 65536;
        int what = ends.partOf(p, q, last, throwing, drawing % 100);
        int mine = codes.mineBehind(p, q, side, what);
        int theirs = codes.theirsBehind(p, q, side, what);
        logged.add(throwing, side, side == 0 ? mine : theirs, side == 0 ? theirs : mine);
    }

    private long lossIn(int i) {
        long loss = ends.lossBy(logged.codeOf0(i), logged.codeOf1(i), logged.lastAhead(i), logged.throwOf(i));
        // Values behind i throws stand in fewer hundredths: this makes all throws of a log alike.
        for (int k = 0; k < i; k++) {
            loss *= 100;
        }
        return loss;
    }

    private static int at(int[] row, int i) {
        return i >= 0 && i < row.length ? row[i] : 0;
    }

    /** Bytes that were fed and wait for a call that takes them. */
    private static final class Tape {
        private static final int MOST = 260;

        private final byte[] bytes = new byte[MOST];
        private int size;

        private boolean hasRoomForFive() {
            return size + 20 <= MOST;
        }

        private void addNumber(int number) {
            for (int shift = 24; shift >= 0 && size < MOST; shift -= 8) {
                bytes[size] = (byte) (number >> shift);
                size++;
            }
        }

        private int numberAt(int place) {
            int number = 0;
            for (int i = 4 * place; i < 4 * place + 4 && i >= 0 && i < MOST; i++) {
                number = number << 8 | bytes[i] & 255;
            }
            return number;
        }
    }

    /**
     * An accepted text as steps for a stack, so that no text is read twice. A clause: its letter,
     * where its C begins, where the next clause begins, the steps of its E, the steps of its C.
     * No byte of a text makes more than one step, so steps of a text are never too many.
     */
    private static final class Program {
        private static final int NUMBER = 0;
        private static final int LETTER = 1;
        private static final int SIGN = 2;
        private static final int SKIP_IF_FALSE = 3;
        private static final int SKIP_IF_TRUE = 4;
        private static final int KIND_SHIFT = 20;
        private static final int ARGUMENT = (1 << KIND_SHIFT) - 1;

        private final int[] steps = new int[MOST_TEXT];
        private int size;
        private int clauses;

        private void clear() {
            size = 0;
            clauses = 0;
        }

        private void add(int step) {
            if (size >= 0 && size < steps.length) {
                steps[size] = step;
                size++;
            }
        }

        private static int step(int kind, int argument) {
            return kind << KIND_SHIFT | argument & ARGUMENT;
        }

        private void put(int place, int step) {
            if (place >= 0 && place < steps.length) {
                steps[place] = step;
            }
        }

        private void copyFrom(Program other) {
            System.arraycopy(other.steps, 0, steps, 0, MOST_TEXT);
            size = other.size;
            clauses = other.clauses;
        }
    }

    /** Reads a text of clauses from the left: the program, or the first fault. */
    private static final class ClauseReader {
        private static final int MOST_CLAUSES = 16;
        private static final int MOST_DIGITS = 5;
        private static final int MOST_OPEN = 6;
        private static final int WRONG_SIGN = 1;
        private static final int SIXTH_DIGIT = 2;
        private static final int CLAUSE_TOO_MANY = 4;
        private static final int TOO_DEEP = 5;

        private final Program out = new Program();
        private final byte[] text = new byte[MOST_TEXT];
        private int end;
        private int at;
        private int fault;

        private int readText(byte[] bytes, int n, boolean isLaw) {
            end = Math.max(0, Math.min(n, Math.min(bytes.length, MOST_TEXT)));
            System.arraycopy(bytes, 0, text, 0, end);
            at = 0;
            fault = 0;
            out.clear();
            for (int i = 0; i <= MOST_CLAUSES; i++) {
                if (!readClause(isLaw)) {
                    return fault;
                }
                if (at >= end) {
                    return out.clauses;
                }
                if (!pass(';')) {
                    return fault;
                }
            }
            return fault;
        }

        private int next() {
            return at >= 0 && at < end && at < text.length ? text[at] & 255 : NONE;
        }

        private boolean refuse(int number) {
            fault = -1000 * number - at;
            return false;
        }

        private boolean pass(int sign) {
            if (next() != sign) {
                return refuse(WRONG_SIGN);
            }
            at++;
            return true;
        }

        private boolean open(int depth) {
            if (depth >= MOST_OPEN) {
                return refuse(TOO_DEEP);
            }
            at++;
            return true;
        }

        private boolean readClause(boolean isLaw) {
            int letter = next();
            if (isLaw ? !isLawLetter(letter) : letter != 'r') {
                return refuse(WRONG_SIGN);
            }
            if (out.clauses >= MOST_CLAUSES) {
                return refuse(CLAUSE_TOO_MANY);
            }
            at++;
            int head = out.size;
            out.add(letter);
            out.add(0);
            out.add(0);
            if (!readSum(0)) {
                return false;
            }
            out.put(head + 1, out.size);
            if (!pass('(') || !readCondition(1) || !pass(')')) {
                return false;
            }
            out.put(head + 2, out.size);
            out.clauses++;
            return true;
        }

        /** Reads a C: a skip leaves out what does not matter, to the end of the piece or part that it stands ahead of. */
        private boolean readCondition(int depth) {
            int skipPiece = NONE;
            int skipPart = NONE;
            for (int i = 0; i < MOST_TEXT; i++) {
                if (!readPiece(depth)) {
                    return false;
                }
                out.put(skipPiece, Program.step(Program.SKIP_IF_FALSE, out.size));
                skipPiece = NONE;
                int sign = next();
                if (sign == '&') {
                    skipPiece = out.size;
                } else {
                    out.put(skipPart, Program.step(Program.SKIP_IF_TRUE, out.size));
                    if (sign != '|') {
                        return true;
                    }
                    skipPart = out.size;
                }
                out.add(0);
                at++;
            }
            return refuse(WRONG_SIGN);
        }

        private boolean readPiece(int depth) {
            int sign = next();
            if (sign == '!') {
                if (!open(depth) || !readPiece(depth + 1)) {
                    return false;
                }
                out.add(Program.step(Program.SIGN, sign));
                return true;
            }
            if (sign == '(') {
                return open(depth) && readCondition(depth + 1) && pass(')');
            }
            if (!readSum(depth)) {
                return false;
            }
            int comparing = next();
            if (comparing != '<' && comparing != '>' && comparing != '=') {
                return refuse(WRONG_SIGN);
            }
            at++;
            if (!readSum(depth)) {
                return false;
            }
            out.add(Program.step(Program.SIGN, comparing));
            return true;
        }

        /** Reads an E: a sign's step stands behind both that it joins, from the left on. */
        private boolean readSum(int depth) {
            int adding = NONE;
            int multiplying = NONE;
            for (int i = 0; i < MOST_TEXT; i++) {
                if (!readFactor(depth)) {
                    return false;
                }
                addSign(multiplying);
                multiplying = NONE;
                int sign = next();
                if (sign == '*' || sign == '/' || sign == '%') {
                    multiplying = sign;
                } else {
                    addSign(adding);
                    if (sign != '+' && sign != '-') {
                        return true;
                    }
                    adding = sign;
                }
                at++;
            }
            return refuse(WRONG_SIGN);
        }

        private void addSign(int sign) {
            if (sign != NONE) {
                out.add(Program.step(Program.SIGN, sign));
            }
        }

        private boolean readFactor(int depth) {
            int sign = next();
            if (sign == '[') {
                return open(depth) && readSum(depth + 1) && pass(']');
            }
            if (isDigit(sign)) {
                return readNumber();
            }
            int letter = letterPlace(sign);
            if (letter < 0) {
                return refuse(WRONG_SIGN);
            }
            at++;
            out.add(Program.step(Program.LETTER, letter));
            return true;
        }

        private boolean readNumber() {
            int number = 0;
            for (int digits = 0; digits < MOST_DIGITS && isDigit(next()); digits++) {
                number = 10 * number + next() - '0';
                at++;
            }
            if (isDigit(next())) {
                return refuse(SIXTH_DIGIT);
            }
            out.add(Program.step(Program.NUMBER, number));
            return true;
        }

        private static boolean isDigit(int sign) {
            return sign >= '0' && sign <= '9';
        }

        private static boolean isLawLetter(int sign) {
            return sign == 'a' || sign == 'b' || sign == 'c' || sign == 'h' || sign == 'k';
        }

        private static int letterPlace(int sign) {
            switch (sign) {
                case 'i':
                    return Reckoner.PLAYS;
                case 'u':
                    return Reckoner.MY_HAND;
                case 'v':
                    return Reckoner.THEIR_HAND;
                case 'm':
                    return Reckoner.MY_BEST;
                case 'n':
                    return Reckoner.THEIR_BEST;
                case 'f':
                    return Reckoner.HOW_FAR;
                case 'l':
                    return Reckoner.AM_LAST;
                case 's':
                    return Reckoner.MINE_LYING;
                case 'o':
                    return Reckoner.THEIRS_LYING;
                default:
                    return NONE;
            }
        }
    }

    /** Reckons programs by what the letters stand for. */
    private static final class Reckoner {
        private static final int PLAYS = 0;
        private static final int MY_HAND = 1;
        private static final int THEIR_HAND = 2;
        private static final int MY_BEST = 3;
        private static final int THEIR_BEST = 4;
        private static final int HOW_FAR = 5;
        private static final int AM_LAST = 6;
        private static final int MINE_LYING = 7;
        private static final int THEIRS_LYING = 8;
        /** Six brackets leave two numbers each open, a comparison one: 24 is more than any text needs. */
        private static final int STACK = 24;

        private final int[] letters = new int[9];
        private final int[] stack = new int[STACK];
        private int height;

        /** The E of the first clause of a letter whose C holds; 0 without one. */
        private int tell(Program program, int letter) {
            int head = 0;
            for (int i = 0; i < program.clauses; i++) {
                int condition = at(program.steps, head + 1);
                int behind = at(program.steps, head + 2);
                if (at(program.steps, head) == letter && run(program, condition, behind) != 0) {
                    return run(program, head + 3, condition);
                }
                head = behind;
            }
            return 0;
        }

        /** What the steps leave; 0 (which is no C that holds, too) if one of them is refused. */
        private int run(Program program, int from, int to) {
            height = 0;
            int resume = from;
            for (int i = from; i < to; i++) {
                if (i >= resume) {
                    int step = at(program.steps, i);
                    int kind = step >> Program.KIND_SHIFT;
                    int argument = step & Program.ARGUMENT;
                    if (kind == Program.NUMBER) {
                        push(argument);
                    } else if (kind == Program.LETTER) {
                        push(at(letters, argument));
                    } else if (kind != Program.SIGN) {
                        boolean isTrue = pop() != 0;
                        if (isTrue == (kind == Program.SKIP_IF_TRUE)) {
                            push(isTrue ? 1 : 0);
                            resume = argument;
                        }
                    } else if (argument == '!') {
                        push(pop() == 0 ? 1 : 0);
                    } else {
                        int second = pop();
                        int first = pop();
                        if (second == 0 && (argument == '/' || argument == '%')) {
                            return 0;
                        }
                        push(joined(argument, first, second));
                    }
                }
            }
            return pop();
        }

        private static int joined(int sign, int first, int second) {
            switch (sign) {
                case '+':
                    return first + second;
                case '-':
                    return first - second;
                case '*':
                    return first * second;
                case '/':
                    return second == 0 ? 0 : first / second;
                case '%':
                    return second == 0 ? 0 : first % second;
                case '<':
                    return first < second ? 1 : 0;
                case '>':
                    return first > second ? 1 : 0;
                default:
                    return first == second ? 1 : 0;
            }
        }

        private void push(int number) {
            if (height >= 0 && height < STACK) {
                stack[height] = number;
                height++;
            }
        }

        private int pop() {
            if (height < 1 || height > STACK) {
                return 0;
            }
            height--;
            return stack[height];
        }
    }

    /** The 56 codes by their place in CODES, with what is asked of them so often that it is kept. */
    private static final class Codes {
        private static final int MANY = 56;
        /** Codes with none in hand come first: so many. */
        private static final int EMPTY_HANDED = 35;
        private static final int BEGIN = 55;
        private static final int NO_RING = 4;
        private static final int[] CODES = {
            0, 1, 2, 3, 10, 11, 12, 20, 21, 30, 100, 101, 102, 110, 111, 120, 200, 201, 210, 300,
            1000, 1001, 1002, 1010, 1011, 1020, 1100, 1101, 1110, 1200, 2000, 2001, 2010, 2100, 3000,
            10000, 10001, 10002, 10010, 10011, 10020, 10100, 10101, 10110, 10200, 11000, 11001, 11010, 11100, 12000,
            20000, 20001, 20010, 20100, 21000,
            30000
        };

        private final int[] hands = new int[MANY];
        private final int[] bestRings = new int[MANY];
        /** Balls in rings below one, at 5 places a code. */
        private final int[] below = new int[5 * MANY];
        /** The code behind a throw that comes to lie in a ring (4: that is gone), at 5 places a code. */
        private final int[] thrown = new int[5 * MANY];
        /** The code without a ball of its best ring. */
        private final int[] without = new int[MANY];

        private Codes() {
            for (int p = 0; p < MANY; p++) {
                int hand = CODES[p] / 10000;
                hands[p] = hand;
                bestRings[p] = NO_RING;
                without[p] = p;
                thrown[5 * p + NO_RING] = hand > 0 ? placeOf(CODES[p] - 10000) : p;
                int rest = CODES[p];
                int unit = 1;
                for (int ring = 3; ring >= 0; ring--) {
                    below[5 * p + ring + 1] = rest % 10;
                    if (rest % 10 > 0) {
                        bestRings[p] = ring;
                        without[p] = placeOf(CODES[p] - unit);
                    }
                    thrown[5 * p + ring] = hand > 0 ? placeOf(CODES[p] - 10000 + unit) : p;
                    rest /= 10;
                    unit *= 10;
                }
                for (int ring = 1; ring <= NO_RING; ring++) {
                    below[5 * p + ring] += below[5 * p + ring - 1];
                }
            }
        }

        private int codeAt(int p) {
            return at(CODES, p);
        }

        private int placeOf(int code) {
            int low = 0;
            int high = MANY - 1;
            for (int i = 0; i < MANY && low < high; i++) {
                int middle = (low + high) / 2;
                if (at(CODES, middle) < code) {
                    low = middle + 1;
                } else {
                    high = middle;
                }
            }
            return at(CODES, low) == code ? low : NONE;
        }

        private int handOf(int p) {
            return at(hands, p);
        }

        private int bestRingOf(int p) {
            return at(bestRings, p);
        }

        private int lyingOf(int p) {
            return at(below, 5 * p + NO_RING);
        }

        private int whoPlays(int p, int q, int last) {
            if (handOf(p) == 0 && handOf(q) == 0) {
                return OVER;
            }
            int side = 1 - last;
            if (bestRingOf(p) != bestRingOf(q)) {
                side = bestRingOf(p) > bestRingOf(q) ? 0 : 1;
            }
            return handOf(side == 0 ? p : q) > 0 ? side : 1 - side;
        }

        private int pointsNow(int p, int q) {
            if (bestRingOf(p) <= bestRingOf(q)) {
                return bestRingOf(p) == bestRingOf(q) ? 0 : at(below, 5 * p + bestRingOf(q));
            }
            return -at(below, 5 * q + bestRingOf(p));
        }

        private boolean canShoot(int p, int q, int side) {
            return lyingOf(side == 0 ? q : p) > 0;
        }

        /** The code of the side that throws behind it, by the part (0 to 6) of promise 9. */
        private int mineBehind(int p, int q, int side, int part) {
            int mine = side == 0 ? p : q;
            int theirs = side == 0 ? q : p;
            int ring = NO_RING;
            if (part < 4) {
                ring = part;
            } else if (part == 4) {
                ring = bestRingOf(theirs);
            }
            return at(thrown, 5 * mine + ring);
        }

        private int theirsBehind(int p, int q, int side, int part) {
            int theirs = side == 0 ? q : p;
            return part == 4 || part == 5 ? at(without, theirs) : theirs;
        }
    }

    /** Values of ends by what both sides aim at: each state is reckoned once for an aim. */
    private static final class Ends {
        /** No state with both empty-handed is kept: an end is over there. */
        private static final int BOTH = 21 * 56;
        private static final int STATES = 2 * (BOTH + 35 * 21);
        /** No worth is as far from 0 as that. */
        private static final long UNKNOWN = -4000000000000000000L;
        private static final int NO_AIM = 0;
        private static final int BY = 1;
        private static final int AT_LEAST = 2;
        private static final int EXACTLY = 3;
        private static final int KNOWN = 1 << 20;
        private static final int BEST_SHIFT = 21;
        private static final int COUNTS = 2 * MOST_POINTS + 1;

        private final Codes codes = new Codes();
        private final Program law = new Program();
        private final Program[] rules = {new Program(), new Program(), new Program(), new Program()};
        private final Reckoner reckoner = new Reckoner();
        private int far = 8;
        /** Of a state: a, b, c, h, k at four bits each, KNOWN, and the best throw (0: not yet known). */
        private final int[] tenths = new int[STATES];
        private int aim = NO_AIM;
        private int first;
        private int second;
        /** Of a state by the aim: twice its worth, 1 more if it is reached by shooting. */
        private final long[] worths = new long[STATES];
        private final long[] begins = new long[2 * FARS];
        private final long[] beginCounts = new long[2 * COUNTS];
        private int beginCountsFar = NONE;

        private Ends() {
            Arrays.fill(begins, UNKNOWN);
        }

        private void forgetLaw() {
            Arrays.fill(tenths, 0);
            Arrays.fill(begins, UNKNOWN);
            beginCountsFar = NONE;
            forgetWorths();
        }

        private void forgetWorths() {
            aim = NO_AIM;
        }

        private void standAt(int n) {
            if (n != far) {
                far = n;
                Arrays.fill(tenths, 0);
                forgetWorths();
            }
        }

        private void aimBy(int j, int k) {
            takeAim(BY, j, k);
        }

        private void aimAtLeast(int count) {
            takeAim(AT_LEAST, count, 0);
        }

        private void takeAim(int kind, int one, int two) {
            if (aim != kind || first != one || second != two) {
                aim = kind;
                first = one;
                second = two;
                Arrays.fill(worths, UNKNOWN);
            }
        }

        private long valueOrThrow(int p, int q, int last, int what) {
            return what == 0 ? settle(p, q, last, 0) >> 1 : throwAt(p, q, last);
        }

        private int throwAt(int p, int q, int last) {
            if (codes.whoPlays(p, q, last) == OVER) {
                return NONE;
            }
            return (settle(p, q, last, 0) & 1) == 0 ? POINTING : SHOOTING;
        }

        /** An aim at a count goes by the best throws: these must be known from the state on. */
        private long chanceOfCount(int p, int q, int last, int count) {
            if (codes.whoPlays(p, q, last) != OVER && bestThrowAt(spotOf(p, q, last)) == 0) {
                aimBy(NONE, NONE);
                settle(p, q, last, 0);
            }
            takeAim(EXACTLY, count, 0);
            return settle(p, q, last, 0) >> 1;
        }

        private long beginValue(int n, int firstSide) {
            int i = 2 * (n - NEAREST_FAR) + firstSide;
            if (i < 0 || i >= begins.length) {
                return 0;
            }
            if (begins[i] == UNKNOWN) {
                standAt(n);
                aimBy(NONE, NONE);
                begins[i] = settle(Codes.BEGIN, Codes.BEGIN, 1 - firstSide, 0) >> 1;
            }
            return begins[i];
        }

        private long valueOfGame(int n, int j, int k) {
            standAt(n);
            aimBy(j, k);
            return settle(Codes.BEGIN, Codes.BEGIN, 1, 0) >> 1;
        }

        /** Chances of -3 to 3 at the begin: seven with side 0 to play first, seven with side 1. */
        private long[] beginCounts(int n) {
            if (beginCountsFar != n) {
                standAt(n);
                for (int i = 0; i < COUNTS; i++) {
                    beginCounts[i] = chanceOfCount(Codes.BEGIN, Codes.BEGIN, 1, i - MOST_POINTS);
                    beginCounts[COUNTS + i] = chanceOfCount(Codes.BEGIN, Codes.BEGIN, 0, i - MOST_POINTS);
                }
                beginCountsFar = n;
            }
            return beginCounts;
        }

        /** By how much a throw is worse than the best one, for the side that throws. */
        private long lossBy(int p, int q, int last, int throwing) {
            int side = codes.whoPlays(p, q, last);
            if (side == OVER) {
                return 0;
            }
            long lost = (settle(p, q, last, 0) >> 1) - worthOfThrow(throwing, p, q, last, 0);
            return Math.max(0, side == 0 ? lost : -lost);
        }

        private int hundredths(int p, int q, int last, int part) {
            return partOfTenths(tenthsAt(p, q, last), part);
        }

        /** The part (0 to 6) of a throw on which a number from 0 to 99 falls. */
        private int partOf(int p, int q, int last, int throwing, int number) {
            int part = throwing == POINTING ? 0 : 4;
            int until = throwing == POINTING ? 3 : 6;
            int limit = hundredths(p, q, last, part);
            for (int i = 0; i < 3 && part < until && number >= limit; i++) {
                part++;
                limit += hundredths(p, q, last, part);
            }
            return part;
        }

        private static int spotOf(int p, int q, int last) {
            int hands = Codes.MANY - Codes.EMPTY_HANDED;
            int spot = p >= Codes.EMPTY_HANDED
                    ? (p - Codes.EMPTY_HANDED) * Codes.MANY + q
                    : BOTH + p * hands + q - Codes.EMPTY_HANDED;
            return 2 * spot + last;
        }

        private int bestThrowAt(int spot) {
            return at(tenths, spot) >> BEST_SHIFT;
        }

        private long worthOfCount(int count) {
            if (aim == BY) {
                return count;
            }
            return (aim == AT_LEAST ? count >= first : count == first) ? 1 : 0;
        }

        /** Twice what a state is worth by the aim, 1 more if the throw there is to shoot. */
        private long settle(int p, int q, int last, int depth) {
            int side = codes.whoPlays(p, q, last);
            if (side == OVER) {
                return 2 * worthOfCount(codes.pointsNow(p, q));
            }
            int spot = spotOf(p, q, last);
            if (depth > MOST_THROWS || spot < 0 || spot >= STATES) {
                return 0;
            }
            if (worths[spot] == UNKNOWN) {
                int told = throwTold(p, q, last, side);
                long pointing = told == SHOOTING ? 0 : worthOfThrow(POINTING, p, q, last, depth);
                long shooting = told == POINTING ? 0 : worthOfThrow(SHOOTING, p, q, last, depth);
                boolean isBetter = side == 0 ? shooting > pointing : shooting < pointing;
                boolean shoots = told == 0 ? isBetter : told == SHOOTING;
                worths[spot] = shoots ? 2 * shooting + 1 : 2 * pointing;
                if (aim == BY && first == NONE && second == NONE) {
                    int best = shoots ? SHOOTING : POINTING;
                    tenths[spot] = tenths[spot] & (1 << BEST_SHIFT) - 1 | best << BEST_SHIFT;
                }
            }
            return worths[spot];
        }

        /** The throw that the side has no choice about; 0: it may choose. */
        private int throwTold(int p, int q, int last, int side) {
            if (!codes.canShoot(p, q, side)) {
                return POINTING;
            }
            if (aim == EXACTLY) {
                return bestThrowAt(spotOf(p, q, last));
            }
            int k = side == 0 ? first : second;
            if (aim != BY || k < 0 || k >= rules.length) {
                return 0;
            }
            tellLetters(p, q, last, side);
            return reckoner.tell(rules[k], 'r') == SHOOTING ? SHOOTING : POINTING;
        }

        private long worthOfThrow(int throwing, int p, int q, int last, int depth) {
            int side = codes.whoPlays(p, q, last);
            int tenth = tenthsAt(p, q, last);
            int from = throwing == POINTING ? 0 : 4;
            int to = throwing == POINTING ? 3 : 6;
            long sum = 0;
            for (int part = from; part <= to; part++) {
                int chance = partOfTenths(tenth, part);
                if (chance > 0) {
                    int mine = codes.mineBehind(p, q, side, part);
                    int theirs = codes.theirsBehind(p, q, side, part);
                    long twice = side == 0
                            ? settle(mine, theirs, side, depth + 1)
                            : settle(theirs, mine, side, depth + 1);
                    sum += chance * (twice >> 1);
                }
            }
            return sum;
        }

        private static int partOfTenths(int tenth, int part) {
            int a = tenth & 15;
            int b = tenth >> 4 & 15;
            int c = tenth >> 8 & 15;
            int h = tenth >> 12 & 15;
            int k = tenth >> 16 & 15;
            switch (part) {
                case 0:
                    return 10 * a;
                case 1:
                    return 10 * b;
                case 2:
                    return 10 * c;
                case 3:
                    return 100 - 10 * (a + b + c);
                case 4:
                    return h * k;
                case 5:
                    return h * (10 - k);
                default:
                    return 100 - 10 * h;
            }
        }

        private int tenthsAt(int p, int q, int last) {
            int spot = spotOf(p, q, last);
            if (spot < 0 || spot >= STATES) {
                return 0;
            }
            if ((tenths[spot] & KNOWN) == 0) {
                tellLetters(p, q, last, codes.whoPlays(p, q, last));
                int a = bounded(reckoner.tell(law, 'a'), 10);
                int b = bounded(reckoner.tell(law, 'b'), 10 - a);
                int c = bounded(reckoner.tell(law, 'c'), 10 - a - b);
                int h = bounded(reckoner.tell(law, 'h'), 10);
                int k = bounded(reckoner.tell(law, 'k'), 10);
                tenths[spot] |= a | b << 4 | c << 8 | h << 12 | k << 16 | KNOWN;
            }
            return tenths[spot];
        }

        private static int bounded(int number, int most) {
            return Math.max(0, Math.min(most, number));
        }

        private void tellLetters(int p, int q, int last, int side) {
            int mine = side == 0 ? p : q;
            int theirs = side == 0 ? q : p;
            int[] letters = reckoner.letters;
            letters[Reckoner.PLAYS] = side;
            letters[Reckoner.MY_HAND] = codes.handOf(mine);
            letters[Reckoner.THEIR_HAND] = codes.handOf(theirs);
            letters[Reckoner.MY_BEST] = codes.bestRingOf(mine);
            letters[Reckoner.THEIR_BEST] = codes.bestRingOf(theirs);
            letters[Reckoner.HOW_FAR] = far;
            letters[Reckoner.AM_LAST] = side == last ? 1 : 0;
            letters[Reckoner.MINE_LYING] = codes.lyingOf(mine);
            letters[Reckoner.THEIRS_LYING] = codes.lyingOf(theirs);
        }
    }

    /** How likely side 0 has 13 first, score by score from 13 down. */
    private static final class Match {
        private static final int WIDTH = MATCH + 1;

        private final int[] chances = new int[2 * WIDTH * WIDTH];

        private int chanceOf0(long[] counts, int a, int b, int first) {
            for (int mine = MATCH; mine >= a; mine--) {
                for (int theirs = MATCH; theirs >= b; theirs--) {
                    put(mine, theirs, 0, chanceAt(counts, mine, theirs, 0));
                    put(mine, theirs, 1, chanceAt(counts, mine, theirs, 1));
                }
            }
            return at(chances, spotOf(a, b, first));
        }

        private static int spotOf(int mine, int theirs, int first) {
            return 2 * (WIDTH * Math.min(mine, MATCH) + Math.min(theirs, MATCH)) + first;
        }

        private void put(int mine, int theirs, int first, int chance) {
            int spot = spotOf(mine, theirs, first);
            if (spot >= 0 && spot < chances.length) {
                chances[spot] = chance;
            }
        }

        private int chanceAt(long[] counts, int mine, int theirs, int first) {
            if (mine >= MATCH || theirs >= MATCH) {
                return mine >= MATCH ? MILLION : 0;
            }
            long sum = 0;
            long all = 0;
            for (int points = -MOST_POINTS; points <= MOST_POINTS; points++) {
                int i = first * Ends.COUNTS + points + MOST_POINTS;
                if (points != 0 && i >= 0 && i < counts.length) {
                    int spot = points > 0 ? spotOf(mine + points, theirs, 0) : spotOf(mine, theirs - points, 1);
                    sum += counts[i] * at(chances, spot);
                    all += counts[i];
                }
            }
            return all == 0 ? MILLION / 2 : (int) (sum / all);
        }
    }

    /** The throws of the end that was drawn last, with the state ahead of each and behind all. */
    private static final class Log {
        private final int[] throwings = new int[MOST_THROWS];
        private final int[] sides = new int[MOST_THROWS];
        private final int[] codesOf0 = new int[MOST_THROWS + 1];
        private final int[] codesOf1 = new int[MOST_THROWS + 1];
        private int lastAtFirst;
        private int size = NONE;

        private void forget() {
            size = NONE;
        }

        private void begin(int p, int q, int last) {
            size = 0;
            lastAtFirst = last;
            codesOf0[0] = p;
            codesOf1[0] = q;
        }

        private void add(int throwing, int side, int p, int q) {
            if (size >= 0 && size < MOST_THROWS) {
                throwings[size] = throwing;
                sides[size] = side;
                size++;
                codesOf0[size] = p;
                codesOf1[size] = q;
            }
        }

        private int codeOf0(int i) {
            return at(codesOf0, i);
        }

        private int codeOf1(int i) {
            return at(codesOf1, i);
        }

        private int throwOf(int i) {
            return at(throwings, i);
        }

        private int lastAhead(int i) {
            return i == 0 ? lastAtFirst : at(sides, i - 1);
        }

        private int lastOf0() {
            return codeOf0(size);
        }

        private int lastOf1() {
            return codeOf1(size);
        }

        private int lastSide() {
            return lastAhead(size);
        }

        private boolean isOver(Codes codes) {
            return codes.whoPlays(lastOf0(), lastOf1(), lastSide()) == OVER;
        }

        private int tell(Codes codes, int what) {
            if (what == 0) {
                return size;
            }
            if (what >= 10 && what < 10 + size) {
                return throwOf(what - 10);
            }
            if (what >= 20 && what < 20 + size) {
                return at(sides, what - 20);
            }
            if (what >= 30 && what <= 30 + size) {
                return codes.codeAt(codeOf0(what - 30));
            }
            if (what >= 40 && what <= 40 + size) {
                return codes.codeAt(codeOf1(what - 40));
            }
            return NONE;
        }
    }

    /** Shots by how far they were; their order is never asked. */
    private static final class Book {
        private static final int MOST = 60;
        /** 60 tenths make 61 digits at most: nine each. */
        private static final int LIMBS = 7;
        private static final int LIMB = 1000000000;

        private final int[] shots = new int[FARS];
        private final int[] hits = new int[FARS];
        private final int[] product = new int[LIMBS];
        private final int[] otherProduct = new int[LIMBS];
        private int size;

        private boolean hasRoom() {
            return size < MOST;
        }

        private int add(int far, boolean isHit) {
            int i = far - NEAREST_FAR;
            if (i >= 0 && i < FARS) {
                shots[i]++;
                hits[i] += isHit ? 1 : 0;
                size++;
            }
            return size;
        }

        private void copyFrom(Book other) {
            System.arraycopy(other.shots, 0, shots, 0, FARS);
            System.arraycopy(other.hits, 0, hits, 0, FARS);
            size = other.size;
        }

        private int tell(int what) {
            if (what == 0) {
                return size;
            }
            if (what == 1) {
                int all = 0;
                for (int i = 0; i < FARS; i++) {
                    all += hits[i];
                }
                return all;
            }
            if (what >= 10 + NEAREST_FAR && what <= 10 + FARTHEST_FAR) {
                return at(shots, what - 10 - NEAREST_FAR);
            }
            if (what >= 20 + NEAREST_FAR && what <= 20 + FARTHEST_FAR) {
                return at(hits, what - 20 - NEAREST_FAR);
            }
            return NONE;
        }

        private int better(int at6, int less, int otherAt6, int otherLess) {
            multiplyAll(product, at6, less);
            multiplyAll(otherProduct, otherAt6, otherLess);
            for (int i = LIMBS - 1; i >= 0; i--) {
                if (product[i] != otherProduct[i]) {
                    return product[i] > otherProduct[i] ? 1 : 2;
                }
            }
            return 0;
        }

        private void multiplyAll(int[] row, int at6, int less) {
            Arrays.fill(row, 0);
            if (row.length > 0) {
                row[0] = 1;
            }
            for (int i = 0; i < FARS; i++) {
                int tenths = Math.max(0, at6 - i * less);
                multiply(row, tenths, hits[i]);
                multiply(row, 10 - tenths, shots[i] - hits[i]);
            }
        }

        private static void multiply(int[] row, int factor, int times) {
            for (int time = 0; time < times; time++) {
                long carry = 0;
                for (int i = 0; i < row.length; i++) {
                    carry += (long) row[i] * factor;
                    row[i] = (int) (carry % LIMB);
                    carry /= LIMB;
                }
            }
        }
    }

    /** The ground: heights, and balls that roll over them. */
    private static final class Heights {
        private static final int WIDTH = 8;
        private static final int SPOTS = 64;
        private static final int WRONG_SIGN = 1;
        private static final int TOO_MANY = 6;

        private final int[] heights = new int[SPOTS];
        private final int[] read = new int[SPOTS];
        private int fault;
        private int stop;
        private int went;
        private int laidY;
        private int laidPush;
        private int laidStop;

        private int heightAt(int spot) {
            return at(heights, spot);
        }

        /** Takes heights from a text: the highest one, or the first fault. */
        private int readText(byte[] text, int n) {
            fault = 0;
            int end = Math.min(n, text.length);
            int place = 0;
            for (int y = 0; y < WIDTH; y++) {
                place = readRow(text, end, place, y);
                if (fault != 0) {
                    return fault;
                }
            }
            System.arraycopy(read, 0, heights, 0, SPOTS);
            int highest = 0;
            for (int i = 0; i < SPOTS; i++) {
                highest = Math.max(highest, heights[i]);
            }
            return highest;
        }

        /** Reads a row and what ends it; tells the place behind that. */
        private int readRow(byte[] text, int end, int from, int y) {
            int x = 0;
            int place = from;
            for (int i = 0; i <= WIDTH; i++) {
                int sign = signAt(text, end, place);
                boolean isLetter = sign >= 'a' && sign <= 'h';
                if (!isLetter && !isDigit(sign)) {
                    boolean isEnd = sign == (y == WIDTH - 1 ? NONE : '/');
                    return x == WIDTH && isEnd ? place + 1 : refuse(WRONG_SIGN, place);
                }
                int times = isLetter ? sign - 'a' + 1 : 1;
                if (x + times > WIDTH) {
                    return refuse(TOO_MANY, place);
                }
                place += isLetter ? 1 : 0;
                int digit = signAt(text, end, place);
                if (!isDigit(digit)) {
                    return refuse(WRONG_SIGN, place);
                }
                put(WIDTH * y + x, times, digit - '0');
                x += times;
                place++;
            }
            return place;
        }

        private void put(int spot, int times, int height) {
            for (int i = spot; i < spot + times && i >= 0 && i < SPOTS; i++) {
                read[i] = height;
            }
        }

        private int refuse(int number, int place) {
            fault = -1000 * number - place;
            return place;
        }

        private static int signAt(byte[] text, int end, int place) {
            return place >= 0 && place < end && place < text.length ? text[place] & 255 : NONE;
        }

        private static boolean isDigit(int sign) {
            return sign >= '0' && sign <= '9';
        }

        /** Rolls a ball: where it stops and how far it went stand in the fields behind it. */
        private void push(int x, int y, int way, int push) {
            int stepX = way == 1 ? 1 : way == 3 ? -1 : 0;
            int stepY = way == 0 ? 1 : way == 2 ? -1 : 0;
            int atX = x;
            int atY = y;
            int left = push;
            went = 0;
            for (int i = 0; i < WIDTH && left > 0; i++) {
                int from = heightAt(WIDTH * atY + atX);
                atX += stepX;
                atY += stepY;
                if (!isSpot(atX, atY)) {
                    stop = NOT_THERE;
                    return;
                }
                left += from - heightAt(WIDTH * atY + atX) - 1;
                went++;
            }
            stop = WIDTH * atY + atX;
        }

        /** Finds the y and the push by which a ball stops nearest a spot; false: none stays. */
        private boolean layNear(int x, int y) {
            int nearest = NONE;
            for (int push = 1; push <= 9; push++) {
                for (int from = 0; from < WIDTH; from++) {
                    push(0, from, 1, push);
                    int across = stop % WIDTH - x;
                    int along = from - y;
                    int square = across * across + along * along;
                    if (stop >= 0 && (nearest == NONE || square < nearest)) {
                        nearest = square;
                        laidY = from;
                        laidPush = push;
                        laidStop = stop;
                    }
                }
            }
            return nearest != NONE;
        }
    }

    /** Balls on the field and the pig. */
    private static final class Field {
        private static final int MOST = 12;
        /** More than 99 squared twice. */
        private static final int NO_SQUARE = 20000;

        private final int[] sides = new int[MOST];
        private final int[] xs = new int[MOST];
        private final int[] ys = new int[MOST];
        private int size;
        private int pigX = 50;
        private int pigY = 50;

        private boolean hasRoom() {
            return size < MOST;
        }

        private int add(int side, int x, int y) {
            if (size < 0 || size >= MOST) {
                return NONE;
            }
            sides[size] = side;
            xs[size] = x;
            ys[size] = y;
            size++;
            return size - 1;
        }

        private void remove(int i) {
            for (int k = Math.max(0, i); k + 1 < size && k + 1 < MOST; k++) {
                sides[k] = sides[k + 1];
                xs[k] = xs[k + 1];
                ys[k] = ys[k + 1];
            }
            size--;
        }

        private void copyFrom(Field other) {
            System.arraycopy(other.sides, 0, sides, 0, MOST);
            System.arraycopy(other.xs, 0, xs, 0, MOST);
            System.arraycopy(other.ys, 0, ys, 0, MOST);
            size = other.size;
            pigX = other.pigX;
            pigY = other.pigY;
        }

        private int sideOf(int i) {
            return at(sides, i);
        }

        private int placeOf(int i) {
            return 100 * at(ys, i) + at(xs, i);
        }

        private int squareOf(int i) {
            int across = at(xs, i) - pigX;
            int along = at(ys, i) - pigY;
            return across * across + along * along;
        }

        /** The square of a side's nearest ball but for one ball; more than any if it has none. */
        private int nearestOf(int side, int leftOut) {
            int nearest = NO_SQUARE;
            for (int i = 0; i < size; i++) {
                if (i != leftOut && sideOf(i) == side) {
                    nearest = Math.min(nearest, squareOf(i));
                }
            }
            return nearest;
        }

        private int whose() {
            int of0 = nearestOf(0, NONE);
            int of1 = nearestOf(1, NONE);
            if (of0 == of1) {
                return NOT_THERE;
            }
            return of0 < of1 ? 0 : 1;
        }

        /** Points (of side 1 below 0) as if one ball were gone; NONE: with all of them. */
        private int pointsWithout(int leftOut) {
            int of0 = nearestOf(0, leftOut);
            int of1 = nearestOf(1, leftOut);
            int side = of0 < of1 ? 0 : 1;
            int limit = Math.max(of0, of1);
            int many = 0;
            for (int i = 0; i < size; i++) {
                if (i != leftOut && sideOf(i) == side && squareOf(i) < limit) {
                    many++;
                }
            }
            return side == 0 ? many : -many;
        }

        private int nearestBall() {
            int nearest = NOT_THERE;
            for (int i = 0; i < size; i++) {
                if (nearest < 0 || squareOf(i) < squareOf(nearest)) {
                    nearest = i;
                }
            }
            return nearest;
        }

        private int nearestSquare() {
            int nearest = nearestBall();
            return nearest < 0 ? NOT_THERE : squareOf(nearest);
        }

        private int ballToShoot(int side) {
            int chosen = NOT_THERE;
            int most = 0;
            for (int i = 0; i < size; i++) {
                if (sideOf(i) == 1 - side) {
                    int mine = side == 0 ? pointsWithout(i) : -pointsWithout(i);
                    if (chosen < 0 || mine > most) {
                        chosen = i;
                        most = mine;
                    }
                }
            }
            return chosen;
        }
    }
}
