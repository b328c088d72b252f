import java.math.BigInteger;
import java.util.ArrayList;
import java.util.Arrays;
import java.util.HashMap;
import java.util.List;
import java.util.Map;

/**
 * Runs of drawn calls, each answered by the class and by a plain second writing of the document (Model,
 * below): slow, with the library's help, and sharing no code with the class.
 */
public final class ModelTest {
    private static long state = 20261118L;

    private static int draw(int n) {
        state = state * 6364136223846793005L + 1442695040888963407L;
        return (int) ((state >>> 33) % n);
    }

    private static boolean one(int in) {
        return draw(in) == 0;
    }

    public static void main(String[] args) {
        int wrong = 0;
        int calls = 0;
        for (int run = 0; run < 400 && wrong < 10; run++) {
            PointOrShoot mine = new PointOrShoot();
            Model due = new Model();
            List<String> told = new ArrayList<>();
            int many = run % 10 == 0 ? 500 : 120;
            beginRun(run);
            for (int i = 0; i < many; i++) {
                Object[] call = drawCall(run, due);
                long got = ask(mine, call);
                long want = due.ask(call);
                told.add(Arrays.toString(call) + " = " + got);
                calls++;
                if (got != want) {
                    wrong++;
                    System.out.println("run " + run + ", call " + i + ": due is " + want);
                    told.forEach(line -> System.out.println("   " + line));
                    break;
                }
            }
        }
        for (int i = 0; i < 20000 && wrong < 10; i++) {
            wrong += faultAsDue(i) ? 0 : 1;
            calls++;
        }
        System.out.println(calls + " calls against the model, " + wrong + " runs wrong");
        if (wrong > 0) {
            System.exit(1);
        }
    }

    private static boolean faultAsDue(int i) {
        PointOrShoot mine = new PointOrShoot();
        Model due = new Model();
        int kind = i % 3;
        String text = spoiled(kind == 0 ? groundText() : clauses(kind == 1));
        int most = kind == 0 ? 120 : 240;
        text = text.substring(0, Math.min(most, text.length()));
        for (Object[] feed : feeds(text)) {
            ask(mine, feed);
            due.ask(feed);
        }
        Object[] call = kind == 0 ? call("ground", text.length())
                : kind == 1 ? call("law", text.length()) : call("rule", 1, text.length());
        long got = ask(mine, call);
        long want = due.ask(call);
        if (got != want) {
            System.out.println(call[0] + " " + text + " answered " + got + ", due is " + want);
        }
        return got == want;
    }

    // ---- what is drawn

    private static final List<Object[]> waiting = new ArrayList<>();

    private static Object[] call(Object... parts) {
        return parts;
    }

    /** Most runs begin with a law and rules by which much can happen. */
    private static void beginRun(int run) {
        waiting.clear();
        if (run % 4 == 0) {
            return;
        }
        String plain = "a" + (1 + draw(5)) + "(i=i);b" + draw(5) + "(i=i);h" + (3 + draw(7)) + "(i=i);k" + draw(9) + "(i=i)";
        String[] laws = {
            plain,
            "a5-n+i(u>1);b3(i=i);c2(i=i);h9-n*2(f<8);h7-n(i=i);k3+i(i=i)",
            "a10/[s+1](l=0);a3(i=i);b2(i=i);h15-f(o>1);h12-f(i=i);k10-f+s(i=i)",
            clauses(true) + ";" + plain,
        };
        String law = laws[draw(laws.length)];
        if (law.length() <= 240) {
            waiting.addAll(feeds(law));
            waiting.add(call("law", law.length()));
        }
        for (int k = 0; k < 4; k++) {
            if (!one(4)) {
                String[] some = {"r2(i=i)", "r1(i=i)", "r2(n<2)", "r2(o>s);r1(i=i)", "r2(u<v|n=0)", "r2(f>7&n<m)", clauses(false)};
                String rule = some[draw(some.length)];
                waiting.add(call("check", 0));
                waiting.addAll(feeds(rule));
                waiting.add(call("rule", k, rule.length()));
            }
        }
        for (int i = run % 5 == 1 ? 40 + draw(25) : 0; i > 0; i--) {
            waiting.add(call("shot", 6 + draw(5), one(2)));
        }
    }

    private static Object[] drawCall(int run, Model due) {
        if (!waiting.isEmpty()) {
            return waiting.remove(0);
        }
        switch (draw(run % 3 == 0 ? 48 : 40)) {
            case 0:
                return text(due, clauses(true), n -> call("law", n), 240);
            case 1:
                return call("drawn", player(due), player(due), 30000, 30000, draw(2));
            case 2:
            case 3: {
                int k = one(20) ? draw(8) - 2 : draw(4);
                return text(due, clauses(false), n -> call("rule", k, n), 240);
            }
            case 4:
                return text(due, groundText(), n -> call("ground", n), 120);
            case 5:
                return call("far", one(6) ? draw(14) : 6 + draw(5));
            case 6:
                return call("seed", one(8) ? draw(200000) - 70000 : draw(65536));
            case 7: {
                waiting.add(call("check", one(5) ? draw(14) - 3 : draw(6)));
                int[] row = due.heights;
                int off = draw(10);
                return call("feed", row[0] + (off == 0 ? 1 : 0), row[1] + (off == 1 ? 256 : 0), row[2],
                        row[3] + (off == 3 ? 1 << 31 : 0), row[4] + (off == 4 ? 1 : 0));
            }
            case 8:
                return call("feed", draw(9), draw(99999), -1 - draw(9), draw(2000000000), 0x2829615b);
            case 9:
                return withState("turn", -1, -1);
            case 10:
                return call("points", code(), code());
            case 11:
            case 12: {
                Object[] it = withState("chance", -1, -1);
                int throwing = one(12) ? draw(5) - 1 : 1 + draw(2);
                int what = one(10) ? draw(9) - 1 : throwing == 2 ? 4 + draw(3) : draw(4);
                return call(it[0], it[1], it[2], it[3], throwing, what);
            }
            case 13:
            case 14:
                return withState("best", what(2), -1);
            case 15:
            case 16:
                return withState("likely", draw(one(9) ? 10 : 7) - 3, -1);
            case 17:
            case 18: {
                Object[] it = withState("goFor", draw(one(9) ? 10 : 7) - 3, -1);
                return call(it[0], it[1], it[2], it[3], it[4], what(2));
            }
            case 19:
            case 20: {
                Object[] it = withState("by", what(2), -1);
                return call(it[0], player(due), player(due), it[1], it[2], it[3], it[4]);
            }
            case 21:
            case 22: {
                Object[] it = withState("drawn", -1, -1);
                for (int i = draw(6); i > 0; i--) {
                    waiting.add(one(2) ? call("wrong", draw(4), draw(3)) : one(3) ? call("wrong", draw(8) - 1, draw(one(9) ? 5 : 3) - (one(30) ? 1 : 0)) : call("log", logWhat()));
                }
                return call(it[0], player(due), player(due), it[1], it[2], it[3]);
            }
            case 23:
                return call("log", logWhat());
            case 24:
                return call("wrong", draw(8) - 1, draw(4));
            case 25:
            case 26:
                return call("shot", one(9) ? draw(13) : 6 + draw(5), one(2));
            case 27:
                return call("book", draw(33) - 1);
            case 28:
            case 29:
                return call("fits", draw(11) + (one(19) ? 1 : 0), draw(4) + (one(19) ? 1 : 0), draw(11) - (one(19) ? 1 : 0), draw(4));
            case 30:
                return call("roll", draw(8) - (one(20) ? 1 : 0), draw(8) + (one(20) ? 1 : 0), draw(4) + (one(20) ? 1 : 0), draw(10) + (one(20) ? 1 : 0), what(2));
            case 31:
                return call("lay", draw(8) - (one(20) ? 1 : 0), draw(8) + (one(20) ? 1 : 0), what(3));
            case 32:
            case 33:
                return call("ball", one(20) ? draw(5) - 2 : draw(2), fieldPlace(), fieldPlace());
            case 34:
                return call("pig", fieldPlace(), fieldPlace());
            case 35:
                return call("gone", draw(7) - (one(8) ? 1 : 0));
            case 36:
                return call("measured", what(4));
            case 37:
                return call("toShoot", one(9) ? draw(6) - 2 : draw(2));
            case 38:
                return one(2) ? call("keep") : call("undo");
            case 39:
                return call("count", one(2) ? draw(62) - 2 : 95 + draw(75));
            case 40:
                return call("toThrow", draw(2) - (one(9) ? 1 : 0), what(2));
            case 41:
            case 42:
                return call("lastBall", what(3));
            case 43:
            case 44:
                return call("game", what(4));
            case 45:
            case 46:
                return call("match", draw(14) + (one(30) ? 1 : 0), draw(14) - (one(30) ? 1 : 0), draw(2) + (one(30) ? 1 : 0));
            default: {
                String name = one(2) ? "best" : "likely";
                return call(name, 30000, 30000, draw(2), draw(2));
            }
        }
    }

    private interface Taking {
        Object[] of(int n);
    }

    private static Object[] text(Model due, String text, Taking taking, int most) {
        String cut = one(4) ? spoiled(text) : text;
        if (due.tape.size() > 0 && !one(12)) {
            // A call that empties the tape, so that the text stands first in it.
            waiting.add(call("check", 0));
        }
        waiting.addAll(feeds(cut));
        int n = Math.min(cut.length(), most);
        waiting.add(taking.of(one(25) ? n + draw(30) - 10 : n));
        return waiting.remove(0);
    }

    private static List<Object[]> feeds(String text) {
        List<Object[]> calls = new ArrayList<>();
        StringBuilder padded = new StringBuilder(text);
        while (padded.length() % 20 != 0) {
            padded.append(one(3) ? ';' : 'a');
        }
        for (int i = 0; i < padded.length(); i += 20) {
            Object[] feed = new Object[6];
            feed[0] = "feed";
            for (int k = 0; k < 5; k++) {
                int number = 0;
                for (int b = 0; b < 4; b++) {
                    number = number << 8 | padded.charAt(i + 4 * k + b) & 255;
                }
                feed[k + 1] = number;
            }
            calls.add(feed);
        }
        return calls;
    }

    private static Object[] withState(String name, int fourth, int unused) {
        int code = code();
        int other = code();
        int last = one(25) ? draw(5) - 2 : draw(2);
        return fourth == -1 && !name.equals("likely") && !name.equals("goFor") && !name.equals("best") && !name.equals("by")
                ? call(name, code, other, last) : call(name, code, other, last, fourth);
    }

    private static int what(int many) {
        return one(15) ? draw(many + 4) - 2 : draw(many);
    }

    private static int player(Model due) {
        int k = draw(5) - 1;
        return k >= 0 && due.rules[k] == null && !one(6) ? -1 : one(40) ? draw(9) - 3 : k;
    }

    private static int logWhat() {
        return one(6) ? draw(60) - 2 : one(5) ? 0 : 10 * (1 + draw(4)) + draw(7);
    }

    private static int fieldPlace() {
        return one(30) ? draw(140) - 20 : one(3) ? draw(100) : 46 + draw(9);
    }

    private static int code() {
        if (one(30)) {
            return draw(2) == 0 ? draw(45000) - 2000 : new int[] {4, 31000, 40000, -1, 22000, 13, 9999}[draw(7)];
        }
        int units = 0;
        int left = draw(4);
        int[] at = {10000, 10000, 10000, 1000, 100, 10, 1};
        for (int i = 0; i < left; i++) {
            units += at[draw(7)];
        }
        return units;
    }

    // ---- texts that are drawn

    private static String clauses(boolean isLaw) {
        StringBuilder text = new StringBuilder();
        int many = one(8) ? 14 + draw(4) : isLaw ? 3 + draw(5) : 1 + draw(3);
        for (int i = 0; i < many; i++) {
            text.append(i == 0 ? "" : ";");
            text.append(isLaw ? i < 5 && !one(4) ? "abhkc".charAt(i) : "abchk".charAt(draw(5)) : 'r');
            if (many > 10) {
                text.append(draw(10)).append(one(2) ? "(i=i)" : "(s=o)");
            } else {
                text.append(one(3) ? sum(0, 2) : String.valueOf(isLaw ? draw(11) : 1 + draw(2)));
                text.append('(').append(one(2) ? "i=i" : condition(1, 3)).append(')');
            }
        }
        return text.toString();
    }

    private static String condition(int open, int size) {
        StringBuilder text = new StringBuilder(piece(open, size));
        for (int i = draw(Math.max(1, size)); i > 0; i--) {
            text.append("&|&|".charAt(draw(4))).append(piece(open, size - 1));
        }
        return text.toString();
    }

    private static String piece(int open, int size) {
        int kind = open > 7 || size < 1 ? 2 : draw(6);
        if (kind == 0) {
            return "!" + piece(open + 1, size - 1);
        }
        if (kind == 1) {
            return "(" + condition(open + 1, size - 1) + ")";
        }
        return sum(open, size) + "<>=".charAt(draw(3)) + sum(open, size - 1);
    }

    private static String sum(int open, int size) {
        StringBuilder text = new StringBuilder(factor(open, size));
        for (int i = draw(Math.max(1, size)); i > 0; i--) {
            text.append("+-*/%".charAt(draw(5))).append(factor(open, size - 1));
        }
        return text.toString();
    }

    private static String factor(int open, int size) {
        if (one(6) && size > 0) {
            return "[" + sum(open + 1, size - 1) + "]";
        }
        return one(3) ? String.valueOf(one(9) ? draw(100000) : draw(12)) : String.valueOf("iuvmnflso".charAt(draw(9)));
    }

    private static String groundText() {
        StringBuilder text = new StringBuilder();
        for (int y = 0; y < 8; y++) {
            text.append(y == 0 ? "" : "/");
            for (int x = 0; x < 8; ) {
                int times = 1 + draw(8 - x);
                if (one(2)) {
                    text.append((char) ('a' + times - 1));
                } else {
                    times = 1;
                }
                text.append(one(3) ? draw(10) : draw(3));
                x += times;
            }
        }
        return text.toString();
    }

    private static String spoiled(String text) {
        StringBuilder out = new StringBuilder(text);
        String signs = "0123456789abcdefgh/()[]!;&|<>=+-*%iuvmnlsork \u00e9";
        for (int i = 1 + draw(2); i > 0; i--) {
            int place = draw(out.length());
            switch (draw(4)) {
                case 0:
                    out.insert(place, signs.charAt(draw(signs.length())));
                    break;
                case 1:
                    out.setCharAt(place, signs.charAt(draw(signs.length())));
                    break;
                case 2:
                    if (out.length() > 1) {
                        out.deleteCharAt(place);
                    }
                    break;
                default:
                    String more = new String[] {"!!!", "[[[", "((((", "123456", ";", "!(!(!(", "[i]"}[draw(7)];
                    out.insert(place, more);
            }
        }
        return out.toString();
    }

    // ---- the class

    private static int i(Object it) {
        return (Integer) it;
    }

    private static long ask(PointOrShoot x, Object[] c) {
        switch ((String) c[0]) {
            case "far":
                return x.far(i(c[1])) ? 1 : 0;
            case "feed":
                return x.feed(i(c[1]), i(c[2]), i(c[3]), i(c[4]), i(c[5]));
            case "law":
                return x.law(i(c[1]));
            case "rule":
                return x.rule(i(c[1]), i(c[2]));
            case "ground":
                return x.ground(i(c[1]));
            case "turn":
                return x.turn(i(c[1]), i(c[2]), i(c[3]));
            case "points":
                return x.points(i(c[1]), i(c[2]));
            case "chance":
                return x.chance(i(c[1]), i(c[2]), i(c[3]), i(c[4]), i(c[5]));
            case "best":
                return x.best(i(c[1]), i(c[2]), i(c[3]), i(c[4]));
            case "likely":
                return x.likely(i(c[1]), i(c[2]), i(c[3]), i(c[4]));
            case "goFor":
                return x.goFor(i(c[1]), i(c[2]), i(c[3]), i(c[4]), i(c[5]));
            case "toThrow":
                return x.toThrow(i(c[1]), i(c[2]));
            case "by":
                return x.by(i(c[1]), i(c[2]), i(c[3]), i(c[4]), i(c[5]), i(c[6]));
            case "lastBall":
                return x.lastBall(i(c[1]));
            case "game":
                return x.game(i(c[1]));
            case "match":
                return x.match(i(c[1]), i(c[2]), i(c[3]));
            case "drawn":
                return x.drawn(i(c[1]), i(c[2]), i(c[3]), i(c[4]), i(c[5]));
            case "log":
                return x.log(i(c[1]));
            case "wrong":
                return x.wrong(i(c[1]), i(c[2]));
            case "shot":
                return x.shot(i(c[1]), (Boolean) c[2]);
            case "book":
                return x.book(i(c[1]));
            case "fits":
                return x.fits(i(c[1]), i(c[2]), i(c[3]), i(c[4]));
            case "roll":
                return x.roll(i(c[1]), i(c[2]), i(c[3]), i(c[4]), i(c[5]));
            case "lay":
                return x.lay(i(c[1]), i(c[2]), i(c[3]));
            case "ball":
                return x.ball(i(c[1]), i(c[2]), i(c[3]));
            case "pig":
                return x.pig(i(c[1]), i(c[2])) ? 1 : 0;
            case "gone":
                return x.gone(i(c[1])) ? 1 : 0;
            case "measured":
                return x.measured(i(c[1]));
            case "toShoot":
                return x.toShoot(i(c[1]));
            case "seed":
                return x.seed(i(c[1])) ? 1 : 0;
            case "keep":
                return x.keep();
            case "undo":
                return x.undo() ? 1 : 0;
            case "check":
                return x.check(i(c[1]));
            case "count":
                return x.count(i(c[1]));
            default:
                throw new IllegalStateException((String) c[0]);
        }
    }

    // ---- the second writing

    private static final class Fault extends RuntimeException {
        private static final long serialVersionUID = 1L;
        final int answer;

        Fault(int number, int place) {
            answer = -1000 * number - place;
        }
    }

    private static final class Refused extends RuntimeException {
        private static final long serialVersionUID = 1L;

        Refused() {
            super(null, null, false, false);
        }
    }

    private interface Number {
        int of(Map<Character, Integer> letters);
    }

    private interface Truth {
        boolean of(Map<Character, Integer> letters);
    }

    private static final class Clause {
        char letter;
        Number number;
        Truth truth;
    }

    private static final class Parser {
        final String text;
        final String heads;
        int at;
        final List<Character> open = new ArrayList<>();

        Parser(String text, String heads) {
            this.text = text;
            this.heads = heads;
        }

        char sign() {
            return at < text.length() ? text.charAt(at) : '\0';
        }

        boolean isOne(String signs) {
            return at < text.length() && signs.indexOf(text.charAt(at)) >= 0;
        }

        char take(String signs) {
            if (!isOne(signs)) {
                throw new Fault(1, at);
            }
            return text.charAt(at++);
        }

        void opens() {
            if (open.size() == 6) {
                throw new Fault(5, at);
            }
            open.add(text.charAt(at++));
        }

        void closes() {
            open.remove(open.size() - 1);
        }

        List<Clause> clauses() {
            List<Clause> all = new ArrayList<>();
            do {
                if (!isOne(heads)) {
                    throw new Fault(1, at);
                }
                if (all.size() == 16) {
                    throw new Fault(4, at);
                }
                Clause one = new Clause();
                one.letter = take(heads);
                one.number = number();
                if (sign() != '(') {
                    throw new Fault(1, at);
                }
                opens();
                one.truth = truth();
                take(")");
                closes();
                all.add(one);
                if (at == text.length()) {
                    return all;
                }
                take(";");
            } while (true);
        }

        Truth truth() {
            List<Truth> parts = new ArrayList<>();
            parts.add(part());
            while (isOne("|")) {
                at++;
                parts.add(part());
            }
            return letters -> {
                for (Truth one : parts) {
                    if (one.of(letters)) {
                        return true;
                    }
                }
                return false;
            };
        }

        Truth part() {
            List<Truth> pieces = new ArrayList<>();
            pieces.add(piece());
            while (isOne("&")) {
                at++;
                pieces.add(piece());
            }
            return letters -> {
                for (Truth one : pieces) {
                    if (!one.of(letters)) {
                        return false;
                    }
                }
                return true;
            };
        }

        Truth piece() {
            if (isOne("!")) {
                opens();
                Truth inner = piece();
                closes();
                return letters -> !inner.of(letters);
            }
            if (isOne("(")) {
                opens();
                Truth inner = truth();
                take(")");
                closes();
                return inner;
            }
            Number left = number();
            char by = take("<>=");
            Number right = number();
            return letters -> {
                int a = left.of(letters);
                int b = right.of(letters);
                return by == '<' ? a < b : by == '>' ? a > b : a == b;
            };
        }

        Number number() {
            Number left = term();
            while (isOne("+-")) {
                char by = take("+-");
                Number first = left;
                Number second = term();
                left = letters -> by == '+' ? first.of(letters) + second.of(letters) : first.of(letters) - second.of(letters);
            }
            return left;
        }

        Number term() {
            Number left = factor();
            while (isOne("*/%")) {
                char by = take("*/%");
                Number first = left;
                Number second = factor();
                left = letters -> {
                    int a = first.of(letters);
                    int b = second.of(letters);
                    if (by == '*') {
                        return a * b;
                    }
                    if (b == 0) {
                        throw new Refused();
                    }
                    return by == '/' ? a / b : a % b;
                };
            }
            return left;
        }

        Number factor() {
            if (isOne("[")) {
                opens();
                Number inner = number();
                take("]");
                closes();
                return inner;
            }
            if (isOne("0123456789")) {
                int from = at;
                while (isOne("0123456789")) {
                    if (at - from == 5) {
                        throw new Fault(2, at);
                    }
                    at++;
                }
                int number = Integer.parseInt(text.substring(from, at));
                return letters -> number;
            }
            char letter = take("iuvmnflso");
            return letters -> letters.get(letter);
        }
    }

    private static final class State {
        final int[][] balls;
        final int last;

        State(int code, int other, int last) {
            this(new int[][] {digits(code), digits(other)}, last);
        }

        State(int[][] balls, int last) {
            this.balls = balls;
            this.last = last;
        }

        static int[] digits(int code) {
            return new int[] {code / 10000, code / 1000 % 10, code / 100 % 10, code / 10 % 10, code % 10};
        }

        int code(int side) {
            int[] it = balls[side];
            return 10000 * it[0] + 1000 * it[1] + 100 * it[2] + 10 * it[3] + it[4];
        }

        int bestRing(int side) {
            for (int ring = 0; ring < 4; ring++) {
                if (balls[side][ring + 1] > 0) {
                    return ring;
                }
            }
            return 4;
        }

        int lying(int side) {
            int[] it = balls[side];
            return it[1] + it[2] + it[3] + it[4];
        }

        boolean isOver() {
            return balls[0][0] + balls[1][0] == 0;
        }

        int turn() {
            int side;
            if (bestRing(0) > bestRing(1)) {
                side = 0;
            } else if (bestRing(1) > bestRing(0)) {
                side = 1;
            } else {
                side = last == 0 ? 1 : 0;
            }
            return balls[side][0] == 0 ? 1 - side : side;
        }

        int points() {
            int points = 0;
            for (int ring = 0; ring < 4; ring++) {
                points += ring < bestRing(1) ? balls[0][ring + 1] : 0;
                points -= ring < bestRing(0) ? balls[1][ring + 1] : 0;
            }
            return points;
        }

        State behind(int part) {
            int side = turn();
            int[][] next = {balls[0].clone(), balls[1].clone()};
            next[side][0]--;
            if (part < 4) {
                next[side][part + 1]++;
            } else if (part < 6) {
                int ring = bestRing(1 - side);
                next[1 - side][ring + 1]--;
                next[side][ring + 1] += part == 4 ? 1 : 0;
            }
            return new State(next, side);
        }

        String key() {
            return code(0) + " " + code(1) + " " + last;
        }
    }

    private interface Ending {
        long of(int points);
    }

    private static final class Model {
        int far = 8;
        int x = 1;
        final List<Integer> tape = new ArrayList<>();
        List<Clause> law = new ArrayList<>();
        final List<Clause>[] rules = newRules();
        int[] heights = new int[64];
        List<int[]> book = new ArrayList<>();
        List<int[]> field = new ArrayList<>();
        int[] pig = {50, 50};
        List<State> logStates;
        List<Integer> logThrows;
        Object[] kept;
        final Map<String, int[]> lawMemo = new HashMap<>();
        final Map<String, Long> bestMemo = new HashMap<>();
        final Map<String, long[]> countsMemo = new HashMap<>();

        @SuppressWarnings({"unchecked", "rawtypes"})
        static List<Clause>[] newRules() {
            return new List[4];
        }

        static final long NO_VALUE = -2000000000000000000L;

        void lawChanged() {
            lawMemo.clear();
            bestMemo.clear();
            countsMemo.clear();
        }

        static boolean isCode(int code) {
            if (code < 0 || code > 30000) {
                return false;
            }
            int sum = 0;
            for (int digit : State.digits(code)) {
                sum += digit;
            }
            return sum <= 3;
        }

        static boolean isState(Object code, Object other, Object last) {
            return isCode(i(code)) && isCode(i(other)) && (i(last) == 0 || i(last) == 1);
        }

        static State state(Object code, Object other, Object last) {
            return new State(i(code), i(other), i(last));
        }

        boolean in(Object number, int low, int high) {
            return i(number) >= low && i(number) <= high;
        }

        boolean canPlay(Object k) {
            return i(k) == -1 || in(k, 0, 3) && rules[i(k)] != null;
        }

        String take(int n) {
            StringBuilder text = new StringBuilder();
            for (int k = 0; k < n; k++) {
                text.append((char) (int) tape.get(k));
            }
            tape.clear();
            return text.toString();
        }

        // -- laws and rules

        static Map<Character, Integer> letters(State s, int far) {
            int side = s.turn();
            Map<Character, Integer> all = new HashMap<>();
            all.put('i', side);
            all.put('u', s.balls[side][0]);
            all.put('v', s.balls[1 - side][0]);
            all.put('m', s.bestRing(side));
            all.put('n', s.bestRing(1 - side));
            all.put('f', far);
            all.put('l', s.last == side ? 1 : 0);
            all.put('s', s.lying(side));
            all.put('o', s.lying(1 - side));
            return all;
        }

        static int told(List<Clause> clauses, char letter, Map<Character, Integer> letters, int none) {
            for (Clause one : clauses) {
                if (one.letter != letter) {
                    continue;
                }
                boolean holds;
                try {
                    holds = one.truth.of(letters);
                } catch (Refused refused) {
                    holds = false;
                }
                if (holds) {
                    try {
                        return one.number.of(letters);
                    } catch (Refused refused) {
                        return 0;
                    }
                }
            }
            return none;
        }

        int[] parts(State s, int far) {
            return lawMemo.computeIfAbsent(s.key() + " " + far, key -> {
                Map<Character, Integer> letters = letters(s, far);
                int[] t = new int[5];
                for (int k = 0; k < 5; k++) {
                    t[k] = Math.min(10, Math.max(0, told(law, "abchk".charAt(k), letters, 0)));
                }
                int b = Math.min(t[1], 10 - t[0]);
                int c = Math.min(t[2], 10 - t[0] - b);
                return new int[] {10 * t[0], 10 * b, 10 * c, 100 - 10 * (t[0] + b + c),
                    t[3] * t[4], t[3] * (10 - t[4]), 100 - 10 * t[3]};
            });
        }

        boolean ruleShoots(List<Clause> rule, State s, int far) {
            return told(rule, 'r', letters(s, far), 1) == 2 && s.lying(1 - s.turn()) > 0;
        }

        // -- worth of ends

        long worthOfThrow(int throwing, State s, int j, int k, int far, Ending ending, Map<String, Long> memo) {
            int[] parts = parts(s, far);
            long sum = 0;
            for (int part = throwing == 1 ? 0 : 4; part <= (throwing == 1 ? 3 : 6); part++) {
                if (parts[part] > 0) {
                    sum += parts[part] * worth(s.behind(part), j, k, far, ending, memo);
                }
            }
            return sum;
        }

        int throwing(State s, int j, int k, int far, Ending ending, Map<String, Long> memo) {
            int rule = s.turn() == 0 ? j : k;
            if (rule >= 0) {
                return ruleShoots(rules[rule], s, far) ? 2 : 1;
            }
            if (s.lying(1 - s.turn()) == 0) {
                return 1;
            }
            long pointing = worthOfThrow(1, s, j, k, far, ending, memo);
            long shooting = worthOfThrow(2, s, j, k, far, ending, memo);
            return (s.turn() == 0 ? shooting > pointing : shooting < pointing) ? 2 : 1;
        }

        long worth(State s, int j, int k, int far, Ending ending, Map<String, Long> memo) {
            if (s.isOver()) {
                return ending.of(s.points());
            }
            String key = s.key() + " " + far;
            Long known = memo.get(key);
            if (known == null) {
                known = worthOfThrow(throwing(s, j, k, far, ending, memo), s, j, k, far, ending, memo);
                memo.put(key, known);
            }
            return known;
        }

        long best(State s, int far) {
            return worth(s, -1, -1, far, points -> points, bestMemo);
        }

        long[] counts(State s) {
            if (s.isOver()) {
                long[] one = new long[7];
                one[s.points() + 3] = 1;
                return one;
            }
            String key = s.key() + " " + far;
            long[] known = countsMemo.get(key);
            if (known == null) {
                known = new long[7];
                int throwing = throwing(s, -1, -1, far, points -> points, bestMemo);
                int[] parts = parts(s, far);
                for (int part = throwing == 1 ? 0 : 4; part <= (throwing == 1 ? 3 : 6); part++) {
                    if (parts[part] > 0) {
                        long[] behind = counts(s.behind(part));
                        for (int k = 0; k < 7; k++) {
                            known[k] += parts[part] * behind[k];
                        }
                    }
                }
                countsMemo.put(key, known);
            }
            return known;
        }

        static State begin(int first) {
            return new State(30000, 30000, 1 - first);
        }

        int match(int a, int b, int first, Map<String, Integer> memo) {
            if (a >= 13) {
                return 1000000;
            }
            if (b >= 13) {
                return 0;
            }
            String key = a + " " + b + " " + first;
            if (!memo.containsKey(key)) {
                BigInteger sum = BigInteger.ZERO;
                BigInteger all = BigInteger.ZERO;
                long[] counts = counts(begin(first));
                for (int c = 1; c <= 3; c++) {
                    BigInteger up = BigInteger.valueOf(counts[3 + c]);
                    BigInteger down = BigInteger.valueOf(counts[3 - c]);
                    sum = sum.add(up.multiply(BigInteger.valueOf(match(a + c, b, 0, memo))));
                    sum = sum.add(down.multiply(BigInteger.valueOf(match(a, b + c, 1, memo))));
                    all = all.add(up).add(down);
                }
                memo.put(key, all.signum() == 0 ? 500000 : sum.divide(all).intValueExact());
            }
            return memo.get(key);
        }

        long game(int what) {
            boolean isLow = what < 2;
            int chosen = -1;
            long value = 0;
            for (int mine = 0; mine < 4; mine++) {
                if (rules[mine] == null) {
                    continue;
                }
                Long inner = null;
                for (int theirs = 0; theirs < 4; theirs++) {
                    if (rules[theirs] == null) {
                        continue;
                    }
                    long one = worth(begin(0), isLow ? mine : theirs, isLow ? theirs : mine, far, points -> points, new HashMap<>());
                    if (inner == null || (isLow ? one < inner : one > inner)) {
                        inner = one;
                    }
                }
                if (chosen < 0 || (isLow ? inner > value : inner < value)) {
                    chosen = mine;
                    value = inner;
                }
            }
            return chosen < 0 ? -2 : what % 2 == 0 ? value : chosen;
        }

        long loss(int k) {
            State s = logStates.get(k);
            long by = worthOfThrow(logThrows.get(k), s, -1, -1, far, points -> points, bestMemo);
            long lost = s.turn() == 0 ? best(s, far) - by : by - best(s, far);
            return BigInteger.valueOf(Math.max(0, lost)).multiply(BigInteger.valueOf(100).pow(k)).longValueExact();
        }

        int drawn(int j, int k, State from) {
            Map<String, Long> memo = new HashMap<>();
            logStates = new ArrayList<>();
            logThrows = new ArrayList<>();
            State s = from;
            logStates.add(s);
            while (!s.isOver()) {
                int throwing = throwing(s, j, k, far, points -> points, memo);
                x = (25173 * x + 13849) % 65536;
                int number = x % 100;
                int[] parts = parts(s, far);
                int part = throwing == 1 ? 0 : 4;
                int until = parts[part];
                while (number >= until) {
                    part++;
                    until += parts[part];
                }
                s = s.behind(part);
                logStates.add(s);
                logThrows.add(throwing);
            }
            return s.points();
        }

        long log(int what) {
            if (logThrows == null) {
                return -1;
            }
            int many = logThrows.size();
            if (what == 0) {
                return many;
            }
            int k = what % 10;
            switch (what < 0 ? -1 : what / 10) {
                case 1:
                    return k < many ? logThrows.get(k) : -1;
                case 2:
                    return k < many ? logStates.get(k).turn() : -1;
                case 3:
                    return k <= many ? logStates.get(k).code(0) : -1;
                case 4:
                    return k <= many ? logStates.get(k).code(1) : -1;
                default:
                    return -1;
            }
        }

        // -- book, ground, field

        BigInteger product(int at6, int less) {
            BigInteger all = BigInteger.ONE;
            for (int[] shot : book) {
                int tenths = Math.max(0, at6 - less * (shot[0] - 6));
                all = all.multiply(BigInteger.valueOf(shot[1] == 1 ? tenths : 10 - tenths));
            }
            return all;
        }

        int[] rolled(int x, int y, int way, int push) {
            int[][] steps = {{0, 1}, {1, 0}, {0, -1}, {-1, 0}};
            int went = 0;
            while (push > 0) {
                int nextX = x + steps[way][0];
                int nextY = y + steps[way][1];
                if (nextX < 0 || nextX > 7 || nextY < 0 || nextY > 7) {
                    return new int[] {-2, went};
                }
                push = push - 1 + heights[8 * y + x] - heights[8 * nextY + nextX];
                x = nextX;
                y = nextY;
                went++;
            }
            return new int[] {8 * y + x, went};
        }

        int lay(int x, int y, int what) {
            int[] found = null;
            for (int from = 0; from < 8; from++) {
                for (int push = 1; push <= 9; push++) {
                    int stop = rolled(0, from, 1, push)[0];
                    if (stop < 0) {
                        continue;
                    }
                    int square = (stop % 8 - x) * (stop % 8 - x) + (stop / 8 - y) * (stop / 8 - y);
                    int[] one = {square, push, from, stop};
                    if (found == null || Arrays.compare(one, found) < 0) {
                        found = one;
                    }
                }
            }
            return found == null ? -2 : what == 0 ? found[2] : what == 1 ? found[1] : found[3];
        }

        int square(int[] ball) {
            return (ball[1] - pig[0]) * (ball[1] - pig[0]) + (ball[2] - pig[1]) * (ball[2] - pig[1]);
        }

        int nearest(List<int[]> balls, int side) {
            return balls.stream().filter(ball -> ball[0] == side).mapToInt(this::square).min().orElse(99999999);
        }

        int pointsOf(List<int[]> balls) {
            int limit1 = nearest(balls, 1);
            int limit0 = nearest(balls, 0);
            long up = balls.stream().filter(ball -> ball[0] == 0 && square(ball) < limit1).count();
            long down = balls.stream().filter(ball -> ball[0] == 1 && square(ball) < limit0).count();
            return (int) (up - down);
        }

        int measured(int what) {
            int first = -2;
            for (int k = 0; k < field.size(); k++) {
                if (first < 0 || square(field.get(k)) < square(field.get(first))) {
                    first = k;
                }
            }
            switch (what) {
                case 0: {
                    int of0 = nearest(field, 0);
                    int of1 = nearest(field, 1);
                    return of0 == of1 ? -2 : of0 < of1 ? 0 : 1;
                }
                case 1:
                    return pointsOf(field);
                case 2:
                    return first;
                case 3:
                    return first < 0 ? -2 : square(field.get(first));
                default:
                    return -100;
            }
        }

        int toShoot(int side) {
            int chosen = -2;
            int most = -99;
            for (int k = 0; k < field.size(); k++) {
                if (field.get(k)[0] != side) {
                    List<int[]> without = new ArrayList<>(field);
                    without.remove(k);
                    int points = side == 0 ? pointsOf(without) : -pointsOf(without);
                    if (points > most) {
                        chosen = k;
                        most = points;
                    }
                }
            }
            return chosen;
        }

        int ground(String text) {
            int[] read = new int[64];
            int at = 0;
            for (int y = 0; y < 8; y++) {
                int x = 0;
                while (true) {
                    char sign = at < text.length() ? text.charAt(at) : '\0';
                    if (x == 8 && (y < 7 ? sign == '/' : at == text.length())) {
                        at++;
                        break;
                    }
                    int times = sign >= 'a' && sign <= 'h' ? sign - 'a' + 1 : 1;
                    boolean isLetter = sign >= 'a' && sign <= 'h';
                    if (!isLetter && !(sign >= '0' && sign <= '9')) {
                        throw new Fault(1, at);
                    }
                    if (x + times > 8) {
                        throw new Fault(6, at);
                    }
                    if (isLetter) {
                        at++;
                        sign = at < text.length() ? text.charAt(at) : '\0';
                        if (!(sign >= '0' && sign <= '9')) {
                            throw new Fault(1, at);
                        }
                    }
                    for (int k = 0; k < times; k++) {
                        read[8 * y + x] = sign - '0';
                        x++;
                    }
                    at++;
                }
            }
            heights = read;
            return Arrays.stream(read).max().getAsInt();
        }

        long count(int what) {
            if (what >= 100 && what < 164) {
                return heights[what - 100];
            }
            if (what >= 40 && what < 40 + field.size()) {
                return 100 * field.get(what - 40)[2] + field.get(what - 40)[1];
            }
            if (what >= 20 && what < 20 + field.size()) {
                return field.get(what - 20)[0];
            }
            if (what >= 10 && what <= 13) {
                return rules[what - 10] == null ? 0 : rules[what - 10].size();
            }
            int[] all = {far, law.size(), tape.size(), x, field.size(), 100 * pig[1] + pig[0]};
            return what >= 0 && what < 6 ? all[what] : -1;
        }

        // -- calls

        long ask(Object[] c) {
            try {
                return answer(c);
            } catch (Fault fault) {
                return fault.answer;
            }
        }

        long answer(Object[] c) {
            switch ((String) c[0]) {
                case "far":
                    if (!in(c[1], 6, 10)) {
                        return 0;
                    }
                    far = i(c[1]);
                    logThrows = null;
                    return 1;
                case "feed":
                    if (tape.size() > 240) {
                        return -1;
                    }
                    for (int k = 1; k <= 5; k++) {
                        for (int b = 24; b >= 0; b -= 8) {
                            tape.add(i(c[k]) >> b & 255);
                        }
                    }
                    return tape.size();
                case "law": {
                    if (!in(c[1], 1, Math.min(240, tape.size()))) {
                        return -1;
                    }
                    law = new Parser(take(i(c[1])), "abchk").clauses();
                    lawChanged();
                    logThrows = null;
                    return law.size();
                }
                case "rule": {
                    if (!in(c[1], 0, 3) || !in(c[2], 1, Math.min(240, tape.size()))) {
                        return -1;
                    }
                    rules[i(c[1])] = new Parser(take(i(c[2])), "r").clauses();
                    return rules[i(c[1])].size();
                }
                case "ground":
                    return in(c[1], 1, Math.min(120, tape.size())) ? ground(take(i(c[1]))) : -1;
                case "turn": {
                    if (!isState(c[1], c[2], c[3])) {
                        return -1;
                    }
                    State s = state(c[1], c[2], c[3]);
                    return s.isOver() ? 2 : s.turn();
                }
                case "points":
                    return isCode(i(c[1])) && isCode(i(c[2])) ? new State(i(c[1]), i(c[2]), 0).points() : -100;
                case "chance": {
                    if (!isState(c[1], c[2], c[3]) || !(i(c[4]) == 1 && in(c[5], 0, 3) || i(c[4]) == 2 && in(c[5], 4, 6))) {
                        return -1;
                    }
                    State s = state(c[1], c[2], c[3]);
                    return s.isOver() || i(c[4]) == 2 && s.lying(1 - s.turn()) == 0 ? -1 : parts(s, far)[i(c[5])];
                }
                case "best":
                    if (!isState(c[1], c[2], c[3]) || !in(c[4], 0, 1)) {
                        return NO_VALUE;
                    }
                    return valueOrThrow(state(c[1], c[2], c[3]), -1, -1, i(c[4]), points -> points, bestMemo);
                case "likely":
                    if (!isState(c[1], c[2], c[3]) || !in(c[4], -3, 3)) {
                        return -1;
                    }
                    return counts(state(c[1], c[2], c[3]))[i(c[4]) + 3];
                case "goFor": {
                    if (!isState(c[1], c[2], c[3]) || !in(c[4], -3, 3) || !in(c[5], 0, 1)) {
                        return NO_VALUE;
                    }
                    int least = i(c[4]);
                    return valueOrThrow(state(c[1], c[2], c[3]), -1, -1, i(c[5]), points -> points >= least ? 1 : 0, new HashMap<>());
                }
                case "toThrow": {
                    if (!in(c[1], 0, 1) || !in(c[2], 0, 1)) {
                        return NO_VALUE;
                    }
                    int chosen = 6;
                    for (int f = 7; f <= 10; f++) {
                        long gain = best(begin(i(c[1])), f) - best(begin(i(c[1])), chosen);
                        chosen = (i(c[1]) == 0 ? gain > 0 : gain < 0) ? f : chosen;
                    }
                    return i(c[2]) == 0 ? chosen : best(begin(i(c[1])), chosen);
                }
                case "by":
                    if (!canPlay(c[1]) || !canPlay(c[2]) || !isState(c[3], c[4], c[5]) || !in(c[6], 0, 1)) {
                        return NO_VALUE;
                    }
                    return valueOrThrow(state(c[3], c[4], c[5]), i(c[1]), i(c[2]), i(c[6]), points -> points, new HashMap<>());
                case "lastBall":
                    switch (i(c[1])) {
                        case 0:
                            return best(begin(1), far) - best(begin(0), far);
                        case 1:
                            return best(begin(0), far);
                        case 2:
                            return best(begin(1), far);
                        default:
                            return NO_VALUE;
                    }
                case "game":
                    return in(c[1], 0, 3) ? game(i(c[1])) : -1;
                case "match":
                    if (!in(c[1], 0, 13) || !in(c[2], 0, 13) || !in(c[3], 0, 1) || i(c[1]) + i(c[2]) == 26) {
                        return -1;
                    }
                    return match(i(c[1]), i(c[2]), i(c[3]), new HashMap<>());
                case "drawn":
                    if (!canPlay(c[1]) || !canPlay(c[2]) || !isState(c[3], c[4], c[5])) {
                        return -100;
                    }
                    return drawn(i(c[1]), i(c[2]), state(c[3], c[4], c[5]));
                case "log":
                    return log(i(c[1]));
                case "wrong": {
                    if (!in(c[2], 0, 2) || logThrows == null || logThrows.isEmpty()) {
                        return -1;
                    }
                    if (i(c[2]) == 0) {
                        return in(c[1], 0, logThrows.size() - 1) ? loss(i(c[1])) : -1;
                    }
                    int worst = 0;
                    for (int k = 1; k < logThrows.size(); k++) {
                        worst = loss(k) > loss(worst) ? k : worst;
                    }
                    return i(c[2]) == 1 ? worst : loss(worst);
                }
                case "shot":
                    if (!in(c[1], 6, 10) || book.size() == 60) {
                        return -1;
                    }
                    book.add(new int[] {i(c[1]), (Boolean) c[2] ? 1 : 0});
                    return book.size();
                default:
                    return answerMore(c);
            }
        }

        long valueOrThrow(State s, int j, int k, int what, Ending ending, Map<String, Long> memo) {
            if (what == 0) {
                return worth(s, j, k, far, ending, memo);
            }
            return s.isOver() ? -1 : throwing(s, j, k, far, ending, memo);
        }

        long answerMore(Object[] c) {
            switch ((String) c[0]) {
                case "book": {
                    int what = i(c[1]);
                    if (what == 0) {
                        return book.size();
                    }
                    if (what == 1) {
                        return book.stream().filter(shot -> shot[1] == 1).count();
                    }
                    if (what >= 16 && what <= 20) {
                        return book.stream().filter(shot -> shot[0] == what - 10).count();
                    }
                    if (what >= 26 && what <= 30) {
                        return book.stream().filter(shot -> shot[0] == what - 20 && shot[1] == 1).count();
                    }
                    return -1;
                }
                case "fits":
                    if (!in(c[1], 0, 10) || !in(c[2], 0, 3) || !in(c[3], 0, 10) || !in(c[4], 0, 3)) {
                        return -1;
                    }
                    return (3 + product(i(c[1]), i(c[2])).compareTo(product(i(c[3]), i(c[4])))) % 3;
                case "roll":
                    if (!in(c[1], 0, 7) || !in(c[2], 0, 7) || !in(c[3], 0, 3) || !in(c[4], 0, 9) || !in(c[5], 0, 1)) {
                        return -1;
                    }
                    return rolled(i(c[1]), i(c[2]), i(c[3]), i(c[4]))[i(c[5])];
                case "lay":
                    return in(c[1], 0, 7) && in(c[2], 0, 7) && in(c[3], 0, 2) ? lay(i(c[1]), i(c[2]), i(c[3])) : -1;
                case "ball":
                    if (!in(c[1], 0, 1) || !in(c[2], 0, 99) || !in(c[3], 0, 99) || field.size() == 12) {
                        return -1;
                    }
                    field.add(new int[] {i(c[1]), i(c[2]), i(c[3])});
                    return field.size() - 1;
                case "pig":
                    if (!in(c[1], 0, 99) || !in(c[2], 0, 99)) {
                        return 0;
                    }
                    pig = new int[] {i(c[1]), i(c[2])};
                    return 1;
                case "gone":
                    if (!in(c[1], 0, field.size() - 1)) {
                        return 0;
                    }
                    field.remove(i(c[1]));
                    return 1;
                case "measured":
                    return measured(i(c[1]));
                case "toShoot":
                    return in(c[1], 0, 1) ? toShoot(i(c[1])) : -1;
                case "seed":
                    if (!in(c[1], 0, 65535)) {
                        return 0;
                    }
                    x = i(c[1]);
                    return 1;
                case "keep":
                    kept = new Object[] {far, x, new ArrayList<>(book), new ArrayList<>(field), pig};
                    return book.size();
                case "undo":
                    return undone();
                case "check": {
                    if (!in(c[1], 0, Math.min(8, tape.size() / 4))) {
                        return -2;
                    }
                    List<Integer> bytes = new ArrayList<>(tape);
                    tape.clear();
                    for (int k = 0; k < i(c[1]); k++) {
                        int number = bytes.get(4 * k) << 24 | bytes.get(4 * k + 1) << 16 | bytes.get(4 * k + 2) << 8 | bytes.get(4 * k + 3);
                        if (number != heights[k]) {
                            return k;
                        }
                    }
                    return -1;
                }
                case "count":
                    return count(i(c[1]));
                default:
                    throw new IllegalStateException((String) c[0]);
            }
        }

        @SuppressWarnings("unchecked")
        long undone() {
            if (kept == null) {
                return 0;
            }
            far = i(kept[0]);
            x = i(kept[1]);
            book = new ArrayList<>((List<int[]>) kept[2]);
            field = new ArrayList<>((List<int[]>) kept[3]);
            pig = (int[]) kept[4];
            logThrows = null;
            return 1;
        }
    }
}
