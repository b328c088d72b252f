import java.util.ArrayList;
import java.util.List;

/**
 * What the document says of all calls: one that is refused changes nothing but the tape, where it is told; what is
 * told first; calls that only ask change nothing; an object is used for 512 calls.
 */
public final class RefusedTest {
    private static final int TAPE = 40;
    private static final String ROWS_7 = "h1/h1/h1/h1/h1/h1/h1/";
    /** What stands on the tape of a furnished object: a law, a rule or a ground by its first bytes all have a FAULT. */
    private static final String WAITING = "x1(i=i);h1(i=i);k1(i=i);b1(i=i);c1(i=i)";

    private interface Call {
        long of(PointOrShoot x);
    }

    public static void main(String[] args) {
        Due.promise(0);
        refusedTexts();
        refusedQuestions();
        refusedOnField();
        faults();
        refusedWhenFull();
        questions();
        toldFirst();
        calls512();
        Due.end("sentences on all calls hold");
    }

    // ---- twins: two objects made alike, one of which is asked more

    /** An object in which all that a call could change has something in it. */
    private static PointOrShoot furnished() {
        PointOrShoot x = new PointOrShoot();
        Due.law(x, "a5-i(i=i);b1(f>6);c1(i=i);h8(i=i);k2(i=i)");
        Due.rule(x, 0, "r2(i=i)");
        Due.rule(x, 2, "r1(i=i);r2(i=i)");
        Due.ground(x, "12345678/h0/h1/h0/2g0/h0/h0/3g9");
        x.shot(6, true);
        x.shot(9, false);
        x.ball(0, 10, 20);
        x.ball(1, 50, 40);
        x.pig(40, 60);
        x.seed(77);
        x.far(7);
        x.keep();
        x.far(9);
        x.shot(8, true);
        x.ball(1, 45, 45);
        x.pig(55, 45);
        x.drawn(0, 2, 20000, 11000, 1);
        Due.feed(x, WAITING);
        return x;
    }

    /** All that can be asked without a change; then what the tape, the seed and what was KEPT hold. */
    private static List<Long> observed(PointOrShoot x) {
        List<Long> all = new ArrayList<>();
        for (int what = 0; what < 60; what++) {
            all.add((long) x.count(what));
        }
        for (int what = 100; what < 164; what++) {
            all.add((long) x.count(what));
        }
        for (int what = 0; what < 31; what++) {
            all.add((long) x.book(what));
        }
        for (int what = 0; what < 50; what++) {
            all.add((long) x.log(what));
        }
        for (int i = 0; i < 6; i++) {
            all.add(x.wrong(i, 0));
        }
        for (int what = 0; what < 7; what++) {
            all.add((long) x.chance(20100, 11000, 0, what < 4 ? 1 : 2, what));
            all.add((long) x.chance(10100, 20001, 1, what < 4 ? 1 : 2, what));
        }
        for (int k = -1; k < 4; k++) {
            all.add(x.by(k, -1, 20100, 11000, 0, 0));
            all.add(x.by(-1, k, 20100, 11000, 0, 1));
        }
        all.add(x.game(0));
        all.add((long) x.measured(1));
        all.add((long) x.drawn(0, 2, 20000, 20000, 1));
        all.add((long) x.count(3));
        // The tape, from its first bytes on: a ; in place of the x at its head leaves a FAULT at another place.
        x.feed(0x3b3b3b3b, 0, 0, 0, 0);
        all.add((long) x.law(60 < x.count(2) ? 1 : Math.max(1, x.count(2))));
        all.add(x.undo() ? 1L : 0L);
        for (int what = 0; what < 60; what++) {
            all.add((long) x.count(what));
        }
        all.add((long) x.book(0));
        return all;
    }

    private static void alike(String what, PointOrShoot asked, PointOrShoot other) {
        List<Long> mine = observed(asked);
        List<Long> due = observed(other);
        for (int i = 0; i < due.size(); i++) {
            Due.due("answer " + i + " behind " + what, mine.get(i), due.get(i));
        }
    }

    private static void refused(int promise, String what, long answer, Call call) {
        Due.callOf(promise);
        PointOrShoot x = furnished();
        Due.due(what, call.of(x), answer);
        Due.due("the tape behind " + what, x.count(2), TAPE);
        alike(what, x, furnished());
        tapeIsWhole(what, call);
    }

    /** The bytes that waited are there still, and in their place: without the first one they are a law. */
    private static void tapeIsWhole(String what, Call call) {
        PointOrShoot x = new PointOrShoot();
        Due.feed(x, "a" + WAITING.substring(1));
        call.of(x);
        Due.due("the tape as a law behind " + what, x.law(WAITING.length()), 5);
    }

    private static void refusedTexts() {
        Due.sentence("A call that is refused (NONE, false) changes nothing: feed, law, rule, ground, check", () -> {
            refused(4, "law(0)", -1, x -> x.law(0));
            refused(4, "law(-1)", -1, x -> x.law(-1));
            refused(4, "law(41)", -1, x -> x.law(41));
            refused(4, "law(241)", -1, x -> x.law(241));
            refused(5, "rule(-1, 7)", -1, x -> x.rule(-1, 7));
            refused(5, "rule(4, 7)", -1, x -> x.rule(4, 7));
            refused(5, "rule(0, 0)", -1, x -> x.rule(0, 0));
            refused(5, "rule(0, 41)", -1, x -> x.rule(0, 41));
            refused(5, "rule(0, 241)", -1, x -> x.rule(0, 241));
            refused(6, "ground(0)", -1, x -> x.ground(0));
            refused(6, "ground(41)", -1, x -> x.ground(41));
            refused(6, "ground(121)", -1, x -> x.ground(121));
            refused(34, "check(-1)", -2, x -> x.check(-1));
            refused(34, "check(9)", -2, x -> x.check(9));
            refused(34, "check(1 << 30)", -2, x -> x.check(1 << 30));
        });
    }

    private static void refusedQuestions() {
        Due.sentence("A call that is refused changes nothing: ends", () -> {
            refused(2, "far(5)", 0, x -> x.far(5) ? 1 : 0);
            refused(2, "far(11)", 0, x -> x.far(11) ? 1 : 0);
            refused(7, "turn", -1, x -> x.turn(4, 0, 0));
            refused(8, "points", -100, x -> x.points(0, 4));
            refused(9, "chance", -1, x -> x.chance(0, 0, 0, 1, 0));
            refused(10, "best", Due.NO_VALUE, x -> x.best(4, 0, 0, 0));
            refused(11, "likely", -1, x -> x.likely(0, 0, 0, 4));
            refused(12, "goFor", Due.NO_VALUE, x -> x.goFor(0, 0, 0, -4, 0));
            refused(13, "toThrow", Due.NO_VALUE, x -> x.toThrow(2, 0));
            refused(14, "by", Due.NO_VALUE, x -> x.by(1, 0, 30000, 30000, 0, 0));
            refused(15, "lastBall", Due.NO_VALUE, x -> x.lastBall(3));
            refused(16, "game", -1, x -> x.game(4));
            refused(17, "match", -1, x -> x.match(13, 13, 0));
        });
        Due.sentence("A call that is refused changes nothing: drawn, log, wrong", () -> {
            refused(18, "drawn by a RULE not told", -100, x -> x.drawn(1, 0, 30000, 30000, 0));
            refused(18, "drawn by RULE 4", -100, x -> x.drawn(0, 4, 30000, 30000, 0));
            refused(18, "drawn from a CODE", -100, x -> x.drawn(0, 0, 40000, 30000, 0));
            refused(18, "drawn, LAST 2", -100, x -> x.drawn(0, 0, 30000, 30000, 2));
            refused(19, "log", -1, x -> x.log(9));
            refused(20, "wrong", -1, x -> x.wrong(6, 0));
            refused(20, "wrong", -1, x -> x.wrong(0, 3));
        });
    }

    private static void refusedOnField() {
        Due.sentence("A call that is refused changes nothing: the book, the ground, the field", () -> {
            refused(21, "shot(5)", -1, x -> x.shot(5, true));
            refused(21, "shot(11)", -1, x -> x.shot(11, false));
            refused(22, "book", -1, x -> x.book(2));
            refused(23, "fits", -1, x -> x.fits(11, 0, 5, 0));
            refused(24, "roll", -1, x -> x.roll(8, 0, 0, 1, 0));
            refused(25, "lay", -1, x -> x.lay(0, 8, 0));
            refused(26, "ball of SIDE 2", -1, x -> x.ball(2, 1, 1));
            refused(26, "ball at 100", -1, x -> x.ball(0, 100, 1));
            refused(26, "ball at -1", -1, x -> x.ball(0, 1, -1));
            refused(27, "pig at 100", 0, x -> x.pig(100, 1) ? 1 : 0);
            refused(27, "pig at -1", 0, x -> x.pig(1, -1) ? 1 : 0);
            refused(28, "gone(3)", 0, x -> x.gone(3) ? 1 : 0);
            refused(28, "gone(-1)", 0, x -> x.gone(-1) ? 1 : 0);
            refused(29, "measured", -100, x -> x.measured(4));
            refused(30, "toShoot", -1, x -> x.toShoot(2));
            refused(31, "seed(-1)", 0, x -> x.seed(-1) ? 1 : 0);
            refused(31, "seed(65536)", 0, x -> x.seed(65536) ? 1 : 0);
            refused(35, "count", -1, x -> x.count(164));
        });
    }

    private static void faults() {
        Due.sentence("but the tape, where it is told: a FAULT", () -> {
            String[] names = {"law", "rule 2", "rule 1", "ground"};
            int[] promises = {4, 5, 5, 6};
            Call[] calls = {x -> x.law(40), x -> x.rule(2, 40), x -> x.rule(1, 40), x -> x.ground(40)};
            for (int i = 0; i < calls.length; i++) {
                Due.callOf(promises[i]);
                PointOrShoot x = furnished();
                PointOrShoot y = furnished();
                Due.due(names[i], calls[i].of(x), -1000);
                Due.due("the tape behind " + names[i], x.count(2), 0);
                y.check(0);
                alike(names[i], x, y);
            }
        });
    }

    private static void refusedWhenFull() {
        Due.sentence("A call that is refused changes nothing: a 14th feed", () -> {
            Due.callOf(3);
            PointOrShoot x = furnished();
            PointOrShoot y = furnished();
            for (int i = 0; i < 11; i++) {
                x.feed(i, i, i, i, i);
                y.feed(i, i, i, i, i);
            }
            Due.due("feed", x.feed(1, 2, 3, 4, 5), -1);
            alike("a 14th feed", x, y);
        });
        Due.sentence("A call that is refused changes nothing: a 61st shot", () -> {
            Due.callOf(21);
            PointOrShoot x = furnished();
            PointOrShoot y = furnished();
            for (int i = 3; i < 60; i++) {
                x.shot(7, i % 2 == 0);
                y.shot(7, i % 2 == 0);
            }
            Due.due("shot", x.shot(10, true), -1);
            alike("a 61st shot", x, y);
        });
        Due.sentence("A call that is refused changes nothing: a 13th ball", () -> {
            Due.callOf(26);
            PointOrShoot x = furnished();
            PointOrShoot y = furnished();
            for (int i = 3; i < 12; i++) {
                x.ball(i % 2, i, i);
                y.ball(i % 2, i, i);
            }
            Due.due("ball", x.ball(0, 1, 1), -1);
            alike("a 13th ball", x, y);
        });
        Due.sentence("A call that is refused changes nothing: undo where none was KEPT", () -> {
            Due.callOf(33);
            PointOrShoot x = new PointOrShoot();
            PointOrShoot y = new PointOrShoot();
            for (PointOrShoot one : new PointOrShoot[] {x, y}) {
                one.far(9);
                one.seed(5);
                one.shot(6, true);
                one.ball(1, 2, 3);
                one.pig(4, 5);
                one.drawn(-1, -1, 10000, 10000, 0);
            }
            Due.no("undo", x.undo());
            alike("undo", x, y);
        });
    }

    // ---- calls that ask

    private static void asks(int promise, String what, Call call) {
        Due.callOf(promise);
        PointOrShoot x = furnished();
        call.of(x);
        alike(what, x, furnished());
    }

    private static void questions() {
        Due.sentence("calls that only ask change nothing", () -> {
            asks(7, "turn", x -> x.turn(30000, 30000, 0));
            asks(8, "points", x -> x.points(1000, 0));
            asks(9, "chance", x -> x.chance(30000, 30000, 0, 1, 0));
            asks(10, "best", x -> x.best(30000, 30000, 0, 0));
            asks(11, "likely", x -> x.likely(30000, 30000, 0, 1));
            asks(12, "goFor", x -> x.goFor(30000, 30000, 0, 1, 0));
            asks(13, "toThrow (FAR stays as it is.)", x -> x.toThrow(0, 0));
            asks(13, "toThrow (FAR stays as it is.)", x -> x.toThrow(1, 1));
            asks(14, "by", x -> x.by(0, 2, 30000, 30000, 0, 0));
            asks(15, "lastBall", x -> x.lastBall(0));
            asks(16, "game", x -> x.game(0) + x.game(2));
            asks(17, "match", x -> x.match(0, 0, 0));
            asks(19, "log", x -> x.log(0));
            asks(20, "wrong", x -> x.wrong(0, 1));
            asks(23, "fits", x -> x.fits(5, 1, 6, 0));
            asks(24, "roll", x -> x.roll(0, 0, 1, 9, 0));
            asks(25, "lay", x -> x.lay(3, 3, 0));
            asks(29, "measured", x -> x.measured(0) + x.measured(3));
            asks(30, "toShoot", x -> x.toShoot(0) + x.toShoot(1));
        });
    }

    // ---- what is told first

    private static void told(int promise, String what, long got, long want) {
        Due.callOf(promise);
        Due.due(what, got, want);
    }

    private static void toldFirst() {
        Due.sentence("NONE is told first, then a FAULT: no such n", () -> {
            PointOrShoot x = new PointOrShoot();
            for (int i = 0; i < 13; i++) {
                x.feed(0, 0, 0, 0, 0);
            }
            told(4, "law(241)", x.law(241), -1);
            told(5, "rule(0, 241)", x.rule(0, 241), -1);
            told(6, "ground(121)", x.ground(121), -1);
            told(4, "law(240)", x.law(240), -1000);
        });
        Due.sentence("NONE is told first, then a FAULT: it has not so many", () -> {
            PointOrShoot x = new PointOrShoot();
            x.feed(0, 0, 0, 0, 0);
            told(4, "law(21)", x.law(21), -1);
            told(5, "rule(0, 21)", x.rule(0, 21), -1);
            told(6, "ground(21)", x.ground(21), -1);
            told(6, "ground(20)", x.ground(20), -1000);
        });
        Due.sentence("NONE is told first, then a FAULT: no such RULE", () -> {
            PointOrShoot x = new PointOrShoot();
            x.feed(0, 0, 0, 0, 0);
            told(5, "rule(4, 20)", x.rule(4, 20), -1);
            told(5, "rule(-1, 20)", x.rule(-1, 20), -1);
            Due.due("the tape", x.count(2), 20);
            told(5, "rule(3, 20)", x.rule(3, 20), -1000);
        });
        Due.sentence("NONE is told first, then -2", () -> {
            PointOrShoot x = new PointOrShoot();
            StringBuilder text = new StringBuilder("76543210");
            for (int y = 1; y < 8; y++) {
                text.append("/76543210");
            }
            told(6, "ground", Due.ground(x, text.toString()), 7);
            told(25, "lay: none stays", x.lay(0, 0, 0), -2);
            told(25, "lay: no such spot", x.lay(0, 8, 0), -1);
            told(25, "lay: no such what", x.lay(0, 0, 3), -1);
            told(24, "roll: gone", x.roll(0, 0, 3, 1, 0), -2);
            told(24, "roll: no such what", x.roll(0, 0, 3, 1, 2), -1);
            told(16, "game: no RULE", x.game(0), -2);
            told(16, "game: no such what", x.game(4), -1);
            told(30, "toShoot: none", x.toShoot(0), -2);
            told(30, "toShoot: no such SIDE", x.toShoot(2), -1);
            told(29, "measured: none", x.measured(2), -2);
            told(29, "measured: no such what", x.measured(4), -100);
        });
        Due.sentence("check: -2 is told where NONE is: right", () -> {
            PointOrShoot x = new PointOrShoot();
            told(34, "no such n, it has not so many", x.check(9), -2);
            told(34, "right", x.check(0), -1);
        });
    }

    // ---- 512 calls

    private static void calls512() {
        Due.promise(0);
        Due.sentence("An object is used for at most 512 calls: the dearest ones", () -> {
            PointOrShoot x = new PointOrShoot();
            Due.law(x, "a10(i=0&f=8);h5(i=1)");
            Due.rule(x, 0, "r1(i=i)");
            Due.rule(x, 1, "r2(i=i)");
            // Nine calls by now: three for each text.
            for (int calls = 9; calls < 505; calls += 4) {
                x.far(6 + calls % 5);
                x.match(0, 0, 0);
                x.game(calls % 3);
                x.toThrow(calls % 2, 1);
            }
            for (int calls = 505; calls < 509; calls++) {
                x.far(8);
            }
            Due.due("the 510th call", x.best(30000, 0, 1, 0), 3000000);
            Due.due("the 511th call", x.by(0, 0, 30000, 10000, 1, 0), 300000000);
            Due.due("the 512th call", x.by(0, 0, 30000, 30000, 1, 0), 3 * Due.END);
        });
        Due.sentence("An object is used for at most 512 calls: texts and ends drawn", () -> {
            PointOrShoot x = new PointOrShoot();
            for (int i = 0; i < 80; i++) {
                Due.due("law", Due.law(x, i % 2 == 0 ? "a10(i=0)" : "a10(i=1)"), 1);
                Due.due("drawn", x.drawn(-1, -1, 30000, 30000, 1), i % 2 == 0 ? 3 : -3);
                Due.due("THROWS", x.log(0), 6);
                Due.due("WORST", x.wrong(0, 2), 0);
            }
            int due = 1;
            for (int i = 0; i < 480; i++) {
                due = (25173 * due + 13849) % 65536;
            }
            Due.due("X behind 480 THROWS", x.count(3), due);
        });
    }
}
