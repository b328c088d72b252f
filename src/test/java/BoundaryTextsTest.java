import java.util.function.ToLongFunction;

/**
 * Promises 1 to 6: each sentence of the document that names a boundary case, by a test of its own: a new object,
 * FAR, the tape, and texts with their faults.
 */
public final class BoundaryTextsTest {
    private static final String ROWS_7 = "h0/h0/h0/h0/h0/h0/h0/";

    public static void main(String[] args) {
        newObject();
        memoryOfTapes();
        far();
        feeding();
        lawTaken();
        lawText();
        lawFaults();
        faultsOfOpenOnes();
        rule();
        ruleTexts();
        groundTaken();
        groundFaults();
        Due.end("sentences on a new object, FAR, the tape and texts hold");
    }

    // ---- promise 1

    private static void newObject() {
        Due.promise(1);
        Due.sentence("FAR 8", () -> {
            Due.due("FAR", new PointOrShoot().count(0), 8);
            Due.due("a chance of 8 less 3", Due.by("af-3(i=i)").chance(30000, 30000, 0, 1, 0), 50);
        });
        Due.sentence("flat ground", () -> {
            PointOrShoot x = new PointOrShoot();
            for (int spot = 0; spot < 64; spot++) {
                Due.due("the height of spot " + spot, x.count(100 + spot), 0);
            }
            Due.due("where a ball stops", x.roll(0, 3, 1, 7, 0), 31);
        });
        Due.sentence("no LAW", () -> {
            PointOrShoot x = new PointOrShoot();
            Due.due("CLAUSES", x.count(1), 0);
            int[] due = {0, 0, 0, 100, 0, 0, 100};
            for (int what = 0; what < 7; what++) {
                Due.due("chance " + what, x.chance(10000, 1000, 1, what < 4 ? 1 : 2, what), due[what]);
            }
        });
        Due.sentence("no .. RULES", () -> {
            PointOrShoot x = new PointOrShoot();
            for (int k = 0; k < 4; k++) {
                Due.due("CLAUSES of RULE " + k, x.count(10 + k), 0);
                Due.due("by RULE " + k, x.by(k, -1, 10000, 0, 1, 0), Due.NO_VALUE);
            }
            Due.due("GAME", x.game(0), -2);
        });
        Due.sentence("THE SEED 1", () -> {
            PointOrShoot x = new PointOrShoot();
            Due.due("X", x.count(3), 1);
            x.drawn(-1, -1, 10000, 0, 1);
            Due.due("X behind a THROW", x.count(3), 25173 + 13849);
        });
        Due.sentence("All memory is the court's own", () -> {
            PointOrShoot x = new PointOrShoot();
            PointOrShoot y = new PointOrShoot();
            x.keep();
            fillAll(x);
            Due.due("FAR of another", y.count(0), 8);
            Due.due("CLAUSES of another", y.count(1) + y.count(10), 0);
            Due.due("the tape of another", y.count(2), 0);
            Due.due("X of another", y.count(3), 1);
            Due.due("balls of another", y.count(4), 0);
            Due.due("the pig of another", y.count(5), 5050);
            Due.due("the ground of another", y.count(100), 0);
            Due.due("THE BOOK of another", y.book(0), 0);
            Due.due("the LOG of another", y.log(0), -1);
            Due.due("the chance of another", y.chance(30000, 30000, 0, 1, 0), 0);
            Due.no("what another has KEPT", y.undo());
            Due.due("FAR of a third one", new PointOrShoot().count(0), 8);
            Due.due("CLAUSES", x.count(1), 1);
            Due.due("FAR", x.count(0), 6);
        });
    }

    private static void memoryOfTapes() {
        Due.sentence("All memory is the court's own: tapes, texts, ends, what is KEPT, in turns", () -> {
            PointOrShoot x = new PointOrShoot();
            PointOrShoot y = new PointOrShoot();
            Due.feed(x, "a5(i=i)");
            Due.feed(y, "a7(i=i)");
            Due.due("law", x.law(7), 1);
            Due.due("law", y.law(7), 1);
            Due.due("VALUE", x.best(10000, 1, 1, 0), 50);
            Due.due("VALUE of another", y.best(10000, 1, 1, 0), 70);
            Due.due("VALUE", x.goFor(10000, 1, 1, 1, 0), 50);
            Due.rule(x, 0, "r2(i=i)");
            Due.rule(y, 0, "r1(i=i)");
            Due.due("THROW", x.by(0, 0, 10000, 1, 1, 1), 2);
            Due.due("THROW of another", y.by(0, 0, 10000, 1, 1, 1), 1);
            x.far(6);
            x.keep();
            y.far(7);
            y.keep();
            x.far(9);
            x.undo();
            Due.due("FAR", x.count(0), 6);
            x.drawn(-1, -1, 10000, 1, 1);
            y.drawn(-1, -1, 1, 20000, 1);
            Due.due("THROWS", x.log(0), 1);
            Due.due("THROWS of another", y.log(0), 2);
            Due.due("match", x.match(13, 5, 0), 1000000);
            Due.ground(x, "h1/h0/h0/h0/h0/h0/h0/h0");
            Due.ground(y, "h2/h0/h0/h0/h0/h0/h0/h0");
            Due.due("a height", x.count(100), 1);
        });
    }

    private static void fillAll(PointOrShoot x) {
        x.far(6);
        Due.law(x, "a5(i=i)");
        Due.rule(x, 0, "r2(i=i)");
        Due.ground(x, "h9/h0/h0/h0/h0/h0/h0/h0");
        x.seed(5);
        x.ball(1, 1, 1);
        x.pig(2, 2);
        x.shot(7, true);
        x.drawn(-1, -1, 10000, 0, 1);
        x.feed(1, 2, 3, 4, 5);
    }

    // ---- promise 2

    private static void far() {
        Due.promise(2);
        Due.sentence("FAR: 6 to 10", () -> {
            PointOrShoot x = Due.by("af(f<10);a1(i=i)");
            for (int n = 6; n <= 10; n++) {
                Due.yes("far " + n, x.far(n));
                Due.due("FAR", x.count(0), n);
                Due.due("a chance by FAR", x.chance(30000, 30000, 0, 1, 0), n < 10 ? 10 * n : 10);
            }
        });
        Due.sentence("false: no such number", () -> {
            PointOrShoot x = Due.by("af(f<10);a1(i=i)");
            x.far(9);
            for (int n : Due.outside(6, 10)) {
                Due.no("far " + n, x.far(n));
                Due.due("FAR", x.count(0), 9);
            }
            Due.no("far 0", x.far(0));
            Due.due("a chance by FAR", x.chance(30000, 30000, 0, 1, 0), 90);
        });
        Due.sentence("FAR (the LOG falls)", () -> {
            PointOrShoot x = new PointOrShoot();
            x.drawn(-1, -1, 10000, 0, 0);
            x.far(9);
            Due.due("the LOG", x.log(0), -1);
            Due.due("its CODES", x.log(30), -1);
            Due.due("its WORST", x.wrong(0, 1), -1);
        });
        Due.sentence("FAR (the LOG falls): the same FAR again", () -> {
            PointOrShoot x = new PointOrShoot();
            x.drawn(-1, -1, 10000, 0, 0);
            x.far(8);
            Due.due("the LOG", x.log(0), -1);
        });
        Due.sentence("f how FAR the pig is: as it is now, in each call", () -> {
            farInEachCall(x -> x.best(10000, 1, 1, 0), 100, 0);
            farInEachCall(x -> x.likely(10000, 1, 1, 1), 100, 0);
            farInEachCall(x -> x.goFor(10000, 1, 1, 1, 0), 100, 0);
            farInEachCall(x -> x.by(0, 0, 10000, 1, 1, 0), 100, 0);
            farInEachCall(x -> x.lastBall(1), 3 * Due.END, 0);
            farInEachCall(x -> x.game(0), 3 * Due.END, 0);
            farInEachCall(x -> x.match(0, 0, 0), 1000000, 500000);
            farInEachCall(x -> x.drawn(0, 0, 10000, 1, 1), 1, 0);
            farInEachCall(x -> x.chance(10000, 1, 1, 1, 0), 100, 0);
        });
        Due.sentence("A call that is refused changes nothing: the LOG", () -> {
            PointOrShoot x = new PointOrShoot();
            x.drawn(-1, -1, 10000, 0, 0);
            x.far(11);
            x.far(5);
            Due.due("the LOG", x.log(0), 1);
        });
    }

    /** Side 0 points to ring 0 at 7 and 9 alone, in place of ring 3. */
    private static void farInEachCall(ToLongFunction<PointOrShoot> call, long at7, long at8) {
        PointOrShoot x = Due.by("a10(i=0&f%2=1);a0(i=i);b0(i=i)");
        Due.rule(x, 0, "r1(i=i)");
        int number = 0;
        for (int far : new int[] {7, 8, 9, 10, 7, 6}) {
            x.far(far);
            // With a ball of side 1 in ring 3 a POINT is one that lies in ring 0.
            Due.due("call " + number + " at " + far, call.applyAsLong(x), far % 2 == 1 ? at7 : at8);
            number++;
        }
    }

    // ---- promise 3

    private static void feeding() {
        Due.promise(3);
        Due.sentence("Twenty bytes: how many it has", () -> {
            PointOrShoot x = new PointOrShoot();
            Due.due("feed", x.feed(0, 0, 0, 0, 0), 20);
            Due.due("feed", x.feed(-1, -1, -1, -1, -1), 40);
            Due.due("tape", x.count(2), 40);
        });
        Due.sentence("the highest of each int first", () -> {
            PointOrShoot x = new PointOrShoot();
            x.feed(0x61352869, 0x3d69297f, 0, 0, 0);
            Due.due("a5(i=i)", x.law(7), 1);
            x.feed(0x00ffffff, 0, 0, 0, 0);
            Due.due("0 first", x.check(1), 0);
            x.feed(0, 0, 0, 0, 1);
            Due.due("1 last", x.check(5), 4);
        });
        Due.sentence("bytes from 128 on are no others", () -> {
            PointOrShoot x = new PointOrShoot();
            // The letter a and 128 more, and 5 and 128 more.
            x.feed(0xe1352869, 0x3d692900, 0, 0, 0);
            Due.due("law", x.law(7), -1000);
            x.feed(0x61b52869, 0x3d692900, 0, 0, 0);
            Due.due("law", x.law(7), -1001);
            x.feed(-1, -1, -1, -1, -1);
            Due.due("law", x.law(20), -1000);
        });
        Due.sentence("come behind the tape", () -> {
            PointOrShoot x = new PointOrShoot();
            x.feed(0, 0, 0, 0, 0);
            x.feed(0, 0, 7, 0, 0);
            Due.due("the eighth number", x.check(8), 7);
        });
        Due.sentence("NONE if that would be more than 260: 260 are not", () -> {
            PointOrShoot x = new PointOrShoot();
            for (int i = 1; i <= 13; i++) {
                Due.due("feed " + i, x.feed(0, 0, 0, 0, 0), 20 * i);
            }
        });
        Due.sentence("NONE if that would be more than 260", () -> {
            PointOrShoot x = new PointOrShoot();
            for (int i = 0; i < 13; i++) {
                x.feed(0, 0, 0, 0, 0);
            }
            Due.due("the 14th", x.feed(0, 0, 0, 0, 0), -1);
            Due.due("tape", x.count(2), 260);
            Due.due("the 15th", x.feed(0, 0, 0, 0, 0), -1);
        });
        Due.sentence("a refused feed leaves all 260 bytes as they are", () -> {
            PointOrShoot x = new PointOrShoot();
            Due.feed(x, longLaw(240) + "01234567890123456789");
            Due.due("feed", x.feed(1, 2, 3, 4, 5), -1);
            Due.due("law", x.law(240), 1);
            Due.due("an empty tape has room again", x.feed(1, 2, 3, 4, 5), 20);
        });
    }

    // ---- promise 4

    /** One clause of as many bytes (an even number): a10+1+1..(i=i). */
    private static String longLaw(int bytes) {
        StringBuilder text = new StringBuilder("a10");
        while (text.length() < bytes - 5) {
            text.append("+1");
        }
        return text.append("(i=i)").toString();
    }

    private static void lawTaken() {
        Due.promise(4);
        Due.sentence("by the first n bytes of the tape", () -> {
            PointOrShoot x = new PointOrShoot();
            Due.feed(x, "a5(i=i);a6(i=i)x");
            Due.due("law", x.law(7), 1);
            Due.due("a", x.chance(30000, 30000, 0, 1, 0), 50);
        });
        Due.sentence("1 to 240: 1", () -> {
            PointOrShoot x = new PointOrShoot();
            Due.feed(x, "a5(i=i)");
            Due.due("law 1: a without an E", x.law(1), -1001);
            Due.due("tape", x.count(2), 0);
        });
        Due.sentence("1 to 240: 240", () -> {
            PointOrShoot x = new PointOrShoot();
            Due.due("law 240", Due.law(x, longLaw(240)), 1);
            Due.due("a", x.chance(30000, 30000, 0, 1, 0), 100);
            Due.due("law 240, its last byte, too", Due.law(x, longLaw(240).substring(0, 239) + ";"), -1239);
        });
        Due.sentence("NONE: no such n (the tape stays)", () -> {
            PointOrShoot x = Due.by("a5(i=i)");
            Due.feed(x, longLaw(240) + "01234567890123456789");
            for (int n : Due.outside(1, 240)) {
                Due.due("law " + n, x.law(n), -1);
            }
            Due.due("law 260", x.law(260), -1);
            Due.due("tape", x.count(2), 260);
            Due.due("the one before stays", x.chance(30000, 30000, 0, 1, 0), 50);
            Due.due("law 240 by that tape", x.law(240), 1);
        });
        Due.sentence("NONE: it has not so many (the tape stays)", () -> {
            PointOrShoot x = new PointOrShoot();
            Due.due("law 1 by an empty tape", x.law(1), -1);
            Due.feed(x, "a5(i=i);h10(i=i&i=i)");
            Due.due("law 21 of 20", x.law(21), -1);
            Due.due("law 240 of 20", x.law(240), -1);
            Due.due("tape", x.count(2), 20);
            Due.due("law 20 of 20", x.law(20), 2);
        });
        Due.sentence("(empty then)", () -> {
            PointOrShoot x = new PointOrShoot();
            Due.feed(x, "a5(i=i);a6(i=i)xxxxxxxxxxxxxxxxxx");
            Due.due("law", x.law(7), 1);
            Due.due("tape", x.count(2), 0);
            Due.due("what stood behind does not stand ahead of what comes", x.feed(0, 0, 0, 0, 0), 20);
            Due.due("check", x.check(5), -1);
        });
        Due.sentence("(empty then): with a FAULT, too", () -> {
            PointOrShoot x = new PointOrShoot();
            Due.feed(x, "a5(i=i);a6(i=i)xxxxxxxxxxxxxxxxxx");
            Due.due("law", x.law(8), -1008);
            Due.due("tape", x.count(2), 0);
        });
        Due.sentence("in place of the one before", () -> {
            PointOrShoot x = Due.by("a3(i=i);b3(i=i);h9(i=i)");
            Due.due("law", Due.law(x, "b4(i=i)"), 1);
            Due.due("CLAUSES", x.count(1), 1);
            Due.due("a", x.chance(10000, 1000, 1, 1, 0), 0);
            Due.due("b", x.chance(10000, 1000, 1, 1, 1), 40);
            Due.due("h", x.chance(10000, 1000, 1, 2, 6), 100);
        });
        Due.sentence("in place of the one before: in each call", () -> {
            lawInEachCall(x -> x.best(30000, 30000, 1, 0), 3 * Due.END, -3 * Due.END);
            lawInEachCall(x -> x.likely(30000, 30000, 1, 3), Due.END, 0);
            lawInEachCall(x -> x.goFor(30000, 30000, 1, 0, 0), Due.END, 0);
            lawInEachCall(x -> x.toThrow(0, 1), 3 * Due.END, -3 * Due.END);
            lawInEachCall(x -> x.by(1, 1, 30000, 30000, 1, 0), 3 * Due.END, -3 * Due.END);
            lawInEachCall(x -> x.lastBall(1), 3 * Due.END, -3 * Due.END);
            lawInEachCall(x -> x.game(2), 3 * Due.END, -3 * Due.END);
            lawInEachCall(x -> x.match(5, 5, 0), 1000000, 0);
            lawInEachCall(x -> x.drawn(1, -1, 30000, 30000, 1), 3, -3);
        });
        Due.sentence("(the LOG falls)", () -> {
            PointOrShoot x = Due.by("a3(i=i)");
            x.drawn(-1, -1, 10000, 0, 0);
            Due.law(x, "a3(i=i)");
            Due.due("the LOG", x.log(0), -1);
        });
        Due.sentence("a FAULT (the one before stays)", () -> {
            PointOrShoot x = Due.by("a3(i=i);b4(i=i)");
            x.drawn(-1, -1, 10000, 0, 0);
            Due.due("law", Due.law(x, "a1(i=i);c9(i=i);"), -1016);
            Due.due("CLAUSES", x.count(1), 2);
            Due.due("a", x.chance(30000, 30000, 0, 1, 0), 30);
            Due.due("b", x.chance(30000, 30000, 0, 1, 1), 40);
            Due.due("c", x.chance(30000, 30000, 0, 1, 2), 0);
            Due.due("the LOG", x.log(0), 1);
        });
        Due.sentence("NONE: the LOG and THE LAW stay", () -> {
            PointOrShoot x = Due.by("a3(i=i)");
            x.drawn(-1, -1, 10000, 0, 0);
            x.feed(1, 2, 3, 4, 5);
            Due.due("law 21", x.law(21), -1);
            Due.due("law 0", x.law(0), -1);
            Due.due("the LOG", x.log(0), 1);
            Due.due("CLAUSES", x.count(1), 1);
        });
    }

    private static void lawInEachCall(ToLongFunction<PointOrShoot> call, long byFirst, long bySecond) {
        PointOrShoot x = Due.by("a10(i=0)");
        Due.rule(x, 1, "r1(i=i)");
        Due.due("by the first LAW", call.applyAsLong(x), byFirst);
        Due.law(x, "a10(i=1)");
        Due.due("by the second LAW", call.applyAsLong(x), bySecond);
        Due.law(x, "a10(i=0)");
        Due.due("by the first LAW again", call.applyAsLong(x), byFirst);
    }

    /** Tells a text as a new law: CLAUSES, or a FAULT behind which the tape is empty and there is no law. */
    private static void told(String text, int answer) {
        PointOrShoot x = new PointOrShoot();
        Due.due(text, Due.law(x, text), answer);
        Due.due("CLAUSES behind " + text, x.count(1), Math.max(0, answer));
        Due.due("tape behind " + text, x.count(2), 0);
    }

    private static String clauses(int many) {
        StringBuilder text = new StringBuilder();
        for (int i = 0; i < many; i++) {
            text.append(i == 0 ? "" : ";").append("abchk".charAt(i % 5)).append("1(i=i)");
        }
        return text.toString();
    }

    private static void lawText() {
        Due.promise(4);
        Due.sentence("no blanks", () -> {
            told(" a1(i=i)", -1000);
            told("a 1(i=i)", -1001);
            told("a1 (i=i)", -1002);
            told("a1( i=i)", -1003);
            told("a1(i =i)", -1004);
            told("a1(i= i)", -1005);
            told("a1(i=i )", -1006);
            told("a1(i=i) ", -1007);
            told("a1(i=i); a1(i=i)", -1008);
            told("a1\t(i=i)", -1002);
            told("a1\n(i=i)", -1002);
        });
        Due.sentence("CLAUSES (16 at most)", () -> {
            told(clauses(1), 1);
            told(clauses(15), 15);
            told(clauses(16), 16);
        });
        Due.sentence("with a ; (59) between two", () -> {
            told("a1(i=i);b1(i=i)", 2);
            told("a1(i=i):b1(i=i)", -1007);
            told("a1(i=i),b1(i=i)", -1007);
            told("a1(i=i)b1(i=i)", -1007);
            told("a1(i=i);;b1(i=i)", -1008);
            told(";a1(i=i)", -1000);
        });
        Due.sentence("a letter: a b c h k alone", () -> {
            for (int sign = 1; sign < 256; sign++) {
                boolean isOne = "abchk".indexOf(sign) >= 0;
                told((char) sign + "1(i=i)", isOne ? 1 : -1000);
            }
        });
        Due.sentence("a FACTOR: a number of one to five digits", () -> {
            told("a0(i=i)", 1);
            told("a00000(i=i)", 1);
            told("a99999(i=i)", 1);
            told("a12345+12345(12345<12345)", 1);
            told("a(i=i)", -1001);
        });
        Due.sentence("a FACTOR: [E], digits, or i u v m n f l s o alone", () -> {
            for (int sign = 1; sign < 256; sign++) {
                if (sign == '[') {
                    told("a[(i=i)", -1002);
                    told("a2(i=[)", -1006);
                } else {
                    boolean isOne = "0123456789iuvmnflso".indexOf(sign) >= 0;
                    told("a" + (char) sign + "(i=i)", isOne ? 1 : -1001);
                    told("a2(i=" + (char) sign + ")", isOne ? 1 : -1005);
                }
            }
        });
        Due.sentence("one of < > =", () -> {
            for (int sign = 1; sign < 256; sign++) {
                // Behind + - * / % another factor stands, but then no comparison comes.
                boolean joins = "+-*/%".indexOf(sign) >= 0;
                boolean isOne = "<>=".indexOf(sign) >= 0;
                told("a2(i" + (char) sign + "i)", isOne ? 1 : joins ? -1006 : -1004);
            }
        });
        Due.sentence("PARTS with a | between two; PIECES with an &", () -> {
            for (int sign = 1; sign < 256; sign++) {
                boolean joins = "+-*/%".indexOf(sign) >= 0;
                if (sign == ')') {
                    told("a2(i=i)i=i)", -1007);
                } else if (joins) {
                    told("a2(i=i" + (char) sign + "i=i)", -1008);
                } else {
                    told("a2(i=i" + (char) sign + "i=i)", sign == '|' || sign == '&' ? 1 : -1006);
                }
            }
        });
    }

    private static void lawFaults() {
        Due.promise(4);
        Due.sentence("1 what can't stand there", () -> {
            String[][] texts = {
                {"1000", "r1(i=i)", "A1(i=i)", "(i=i)", "1(i=i)", ")"},
                {"1001", "aa1(i=i)", "a(i=i)", "a+1(i=i)", "a-1(i=i)", "a!1(i=i)", "a)1(i=i)", "a;"},
                {"1002", "a1i=i)", "a1i(i=i)", "ai1(i=i)", "aii(i=i)", "a1[1](i=i)", "a1](i=i)", "a1)(i=i)", "a1=1(i=i)", "a1;b1(i=i)",
                    "a[](i=i)", "a[+1](i=i)", "a[!i](i=i)"},
                {"1003", "a1()", "a1(&i=i)", "a1(|i=i)", "a1(=i)", "a1(+i=i)", "a1(])", "a1(a=i)", "a1(r=i)", "a1+(i=i)", "a1**1(i=i)",
                    "a1+-1(i=i)", "a[1(i=i)", "a[1)(i=i)", "a[1=1](i=i)"},
                {"1004", "a1(i)", "a1(ii)", "a1(i!=i)", "a1(i&i=i)", "a1(!)", "a1(!&i=i)", "a1(())", "a1([])"},
                {"1005", "a1(i=)", "a1(i==i)", "a1(i<=i)", "a1(i>=i)", "a1(i<>i)", "a1(i=!i)", "a1(i=(i))", "a1(!i)", "a1((i)=i)",
                    "a1([i)=i)", "a1([i=i])", "a1(i=&i=i)"},
                {"1006", "a1(i=i=i)", "a1(i=i<i)", "a1(i=i;b1(i=i)", "a1(i=i])", "a1(i=ii)", "a1(i=i!)", "a1(i=i(i=i))"},
                {"1007", "a1(i=i&)", "a1(i=i|)", "a1(i=i&&i=i)", "a1(i=i||i=i)", "a1(i=i&|i=i)", "a1(i=i|&i=i)", "a1(i=i))", "a1(i=i)b",
                    "a1(i=i)(i=i)", "a1(i=i)&(i=i)", "a1(i=i)!"},
                {"1008", "a1((i=i)=i)", "a1((i=i)+i)", "a1((i=i)i=i)", "a1([i]=i])", "a1(i=i);r1(i=i)", "a1(i=i);1"},
            };
            for (String[] row : texts) {
                for (int i = 1; i < row.length; i++) {
                    told(row[i], -Integer.parseInt(row[0]));
                }
            }
        });
        Due.sentence("1 what can't stand there (the end, too)", () -> {
            String text = "a[u+1]*2-v%3(!(i=i|m<n)&f>7|!l=10);b3(i=i)";
            for (int n = 1; n < text.length(); n++) {
                PointOrShoot x = new PointOrShoot();
                Due.feed(x, text);
                Due.due("the first " + n + " bytes of " + text, x.law(n), n == text.indexOf(';') ? 1 : -1000 - n);
            }
            told(text, 2);
        });
        Due.sentence("2 a sixth digit, at it", () -> {
            told("a123456(i=i)", -2006);
            told("a000000(i=i)", -2006);
            told("a1234567(i=i)", -2006);
            told("a1+[123456](i=i)", -2009);
            told("a1(123456=i)", -2008);
            told("a1(i=000000)", -2010);
            told("a1(i=i);h1(i=i);k99999(i=i);k000001(i=i)", -2034);
            told("a123456", -2006);
            told("a12345", -1006);
        });
        Due.sentence("4 a 17th CLAUSE, at its letter", () -> {
            told(clauses(17), -4128);
            told(clauses(18), -4128);
            told(clauses(16) + ";k", -4128);
            told(clauses(16) + ";kx", -4128);
            told(clauses(16) + ";a123456", -4128);
            told(clauses(12) + ";a10(i=i)" + clauses(5).substring(7), -4129);
        });
        Due.sentence("4 a 17th CLAUSE (if that can stand there)", () -> {
            told(clauses(16) + ";", -1128);
            told(clauses(16) + ";r1(i=i)", -1128);
            told(clauses(16) + ";1", -1128);
            told(clauses(16) + ";;", -1128);
            told(clauses(16) + ")", -1127);
        });
        Due.sentence("FAULTS, the first from the left", () -> {
            told("a123456(x=i)", -2006);
            told("ax23456(123456=i)", -1001);
            told("a1(x=123456)", -1003);
            told("a1(i=123456x)", -2010);
            told("a1(((((((123456=i", -5008);
            told("a1((((((123456=i", -2013);
            told("a[[[[[[[", -5007);
            told("a[[[[[[x", -1007);
            told(clauses(15) + ";a1(i=i;k1(i=i);k1(i=i)", -1126);
            told(clauses(16).substring(0, 126) + ";k1(i=i)", -1126);
            told("a1(i=i);123456", -1008);
        });
    }

    private static void faultsOfOpenOnes() {
        Due.promise(4);
        Due.sentence("5 a seventh of (, at it", () -> {
            told("a1((((((i=i))))))", 1);
            told("a1(((((((i=i)))))))", -5008);
            told("a1(((((((", -5008);
            told("a1(i=i&((((((i=i))))))", -5012);
        });
        Due.sentence("5 a seventh of [, at it", () -> {
            told("a1([[[[[i]]]]]=[[[[[i]]]]])", 1);
            told("a1([[[[[[i]]]]]]=i)", -5008);
            told("a1(i=[[[[[[i]]]]]])", -5010);
            told("a[[[[[[[1]]]]]]](i=i)", -5007);
        });
        Due.sentence("5 a seventh of !, at it", () -> {
            told("a1(!!!!!i=i)", 1);
            told("a1(!!!!!!i=i)", -5008);
            told("a1(!!!!!!!i=i)", -5008);
        });
        Due.sentence("5 of ( [ ! that are open in one another", () -> {
            told("a1(!(!(![i]=i)))", -5008);
            told("a1(!(!([i]=[i])))", 1);
            told("a1(!(!([[i]]=i)))", -5008);
            told("a1(!(!(i=[i+[i]])))", -5012);
            told("a1(!!!!![i]=i)", -5008);
            told("a1(!!!!!(i=i))", -5008);
            told("a1((((((!i=i))))))", -5008);
            told("a1((((([i]=i|!i=i)))))", 1);
        });
        Due.sentence("5 those beside one another are not open in one another", () -> {
            told("a1((i=i)&(i=i)&(i=i)&(i=i)&(i=i)&(i=i)&(i=i))", 1);
            told("a[1]+[1]+[1]+[1]+[1]+[1]+[1]([i]=[i]&[i]=[i]&[i]=[i]&[i]=[i])", 1);
            told("a1(i=i);a1(i=i);a1(i=i);a1(i=i);a1(i=i);a1(i=i);a1(i=i)", 7);
        });
        Due.sentence("5 the ( of the CLAUSE counts", () -> {
            told("a1((((((i=i))))))", 1);
            told("a1(((((((i=i)))))))", -5008);
        });
        Due.sentence("5 a ! is open till its PIECE ends", () -> {
            told("a1(!i=i&!i=i|!i=i&!i=i|!i=i&!i=i|!i=i)", 1);
            told("a1(!!!!!i=i&!!!!!i=i|!!!!!i=i)", 1);
            told("a1(!(!(!i=i))&!(!(!i=i)))", 1);
            told("a1(!(!(!i=i))&!(!(![i]=i)))", -5019);
            told("a1(!(!(i=i)&!i=i)&!(!(i=i)&!i=i))", 1);
            // It is open in both of an E's: ahead of the sign and behind it.
            told("a1(!!!!i=[i]&!!!!!i=[i])", -5020);
            told("a1(!!!!i=[[i]])", -5010);
        });
        Due.sentence("5 the E of a CLAUSE stands ahead of it", () -> {
            told("a[[[[[[1]]]]]](i=i)", 1);
            told("a[[[[[[1]]]]]]((((((i=i))))))", 1);
            told("a[[[[[[[1]]]]]]](i=i)", -5007);
        });
    }

    // ---- promise 5

    private static void rule() {
        Due.promise(5);
        Due.sentence("RULES 0 to 3", () -> {
            PointOrShoot x = new PointOrShoot();
            for (int k = 0; k < 4; k++) {
                String text = k % 2 == 0 ? "r1(i=i);r1(i=i)" : "r2(i=i)";
                Due.due("rule " + k, Due.rule(x, k, text), 2 - k % 2);
                Due.due("CLAUSES", x.count(10 + k), 2 - k % 2);
            }
            for (int k = 0; k < 4; k++) {
                Due.due("the THROW by RULE " + k, x.by(k, k, 10000, 1000, 1, 1), 1 + k % 2);
            }
        });
        Due.sentence("NONE: no such RULE (the tape stays)", () -> {
            PointOrShoot x = new PointOrShoot();
            Due.feed(x, "r2(i=i)");
            for (int k : Due.outside(0, 3)) {
                Due.due("rule " + k, x.rule(k, 7), -1);
            }
            Due.due("tape", x.count(2), 20);
            for (int k = 0; k < 4; k++) {
                Due.due("CLAUSES of RULE " + k, x.count(10 + k), 0);
            }
            Due.due("rule by that tape", x.rule(3, 7), 1);
        });
        Due.sentence("likewise: NONE: no such n (the tape stays)", () -> {
            PointOrShoot x = new PointOrShoot();
            Due.feed(x, longLaw(240).replace('a', 'r') + "01234567890123456789");
            for (int n : Due.outside(1, 240)) {
                Due.due("rule of " + n, x.rule(0, n), -1);
            }
            Due.due("tape", x.count(2), 260);
            Due.due("not told", x.count(10), 0);
            Due.due("240", x.rule(0, 240), 1);
        });
        Due.sentence("likewise: NONE: it has not so many (the tape stays)", () -> {
            PointOrShoot x = new PointOrShoot();
            Due.due("of an empty tape", x.rule(0, 1), -1);
            Due.feed(x, "r5(i=i);r10(i=i&i=i)");
            Due.due("21 of 20", x.rule(0, 21), -1);
            Due.due("tape", x.count(2), 20);
            Due.due("20 of 20", x.rule(0, 20), 2);
        });
        Due.sentence("likewise: (empty then)", () -> {
            PointOrShoot x = new PointOrShoot();
            Due.feed(x, "r2(i=i);r1(i=i)xxxxxxxxxxxxxxx");
            Due.due("rule", x.rule(0, 7), 1);
            Due.due("tape", x.count(2), 0);
            Due.feed(x, "r2(i=i);r1(i=i)xxxxxxxxxxxxxxx");
            Due.due("a FAULT", x.rule(0, 16), -1015);
            Due.due("tape", x.count(2), 0);
        });
        Due.sentence("likewise: in place of the one before", () -> {
            PointOrShoot x = new PointOrShoot();
            Due.rule(x, 2, "r2(i=i);r2(i=i)");
            Due.due("by the one before", x.by(2, 2, 10000, 1000, 1, 1), 2);
            Due.rule(x, 2, "r1(i=0)");
            Due.due("by that one", x.by(2, 2, 10000, 1000, 1, 1), 1);
            Due.due("CLAUSES", x.count(12), 1);
        });
        Due.sentence("likewise: in place of the one before: in each call", () -> {
            PointOrShoot x = Due.by("a10(i=0);h10(i=1)");
            for (int times = 0; times < 2; times++) {
                // SIDE 1 takes all of SIDE 0 but the last one, by shooting.
                Due.rule(x, 0, "r1(i=i)");
                Due.due("by", x.by(0, 0, 30000, 30000, 1, 0), 3 * Due.END);
                Due.due("GAME", x.game(0), 3 * Due.END);
                Due.due("drawn", x.drawn(0, 0, 30000, 30000, 1), 3);
                Due.rule(x, 0, "r2(i=i)");
                Due.due("by", x.by(0, 0, 30000, 30000, 1, 0), 0);
                Due.rule(x, 0, "r1(i=i)");
                x.game(2);
                Due.rule(x, 0, "r2(i=i)");
                Due.due("GAME", x.game(2), 0);
                Due.due("drawn", x.drawn(0, 0, 30000, 30000, 1), 0);
            }
        });
        Due.sentence("likewise: a FAULT (the one before stays)", () -> {
            PointOrShoot x = new PointOrShoot();
            Due.rule(x, 1, "r2(i=i);r2(i=i)");
            Due.due("a FAULT", Due.rule(x, 1, "r1(i=i);r1(i=i);r1(i=i);"), -1024);
            Due.due("CLAUSES", x.count(11), 2);
            Due.due("the THROW", x.by(1, 1, 10000, 1000, 1, 1), 2);
            Due.due("a FAULT of one not told", Due.rule(x, 0, "r1(i=i"), -1006);
            Due.due("not told", x.by(0, 0, 10000, 1000, 1, 1), Due.NO_VALUE);
        });
        Due.sentence("(the LOG stays)", () -> {
            PointOrShoot x = new PointOrShoot();
            x.drawn(-1, -1, 10000, 0, 0);
            Due.rule(x, 0, "r2(i=i)");
            Due.due("the LOG", x.log(0), 1);
            Due.rule(x, 0, "r2(i=i);");
            Due.due("the LOG behind a FAULT", x.log(0), 1);
        });
    }

    private static void ruleTold(String text, int answer) {
        PointOrShoot x = new PointOrShoot();
        Due.due(text, Due.rule(x, 1, text), answer);
        Due.due("CLAUSES behind " + text, x.count(11), Math.max(0, answer));
        Due.due("tape behind " + text, x.count(2), 0);
    }

    private static void ruleTexts() {
        Due.promise(5);
        Due.sentence("CLAUSES r, E and (C): r alone", () -> {
            for (int sign = 1; sign < 256; sign++) {
                ruleTold((char) sign + "1(i=i)", sign == 'r' ? 1 : -1000);
            }
        });
        Due.sentence("likewise: CLAUSES (16 at most)", () -> {
            String text = clauses(16).replaceAll("[abchk]", "r");
            ruleTold(text, 16);
            ruleTold(text + ";r1(i=i)", -4128);
            ruleTold(text + ";r", -4128);
            ruleTold(text + ";a", -1128);
            ruleTold(text + ";", -1128);
        });
        Due.sentence("likewise: FAULTS", () -> {
            ruleTold("r", -1001);
            ruleTold("r1", -1002);
            ruleTold("r1(i=i);", -1008);
            ruleTold("r1 (i=i)", -1002);
            ruleTold("r123456(i=i)", -2006);
            ruleTold("r1(i=123456)", -2010);
            ruleTold("r[[[[[[[1]]]]]]](i=i)", -5007);
            ruleTold("r1(!!!!!!i=i)", -5008);
            ruleTold("r[[[[[[1]]]]]](!!!!!i=i)", 1);
        });
    }

    // ---- promise 6

    /** A ground of as many bytes as a text may have: 49 heights with a letter, 15 without. */
    private static final String GROUND_120 = "a0a0a0a0a0a0a0a0/a1a1a1a1a1a1a1a1/a2a2a2a2a2a2a2a2/a3a3a3a3a3a3a3a3/"
            + "a4a4a4a4a4a4a4a4/a5a5a5a5a5a5a5a5/a67777777/89898989";

    private static void groundTaken() {
        Due.promise(6);
        Due.sentence("by the first n bytes of the tape", () -> {
            PointOrShoot x = new PointOrShoot();
            Due.feed(x, "h1/h2/h3/h4/h5/h6/h7/h89999");
            Due.due("ground", x.ground(23), 8);
            Due.due("the last height", x.count(163), 8);
        });
        Due.sentence("1 to 120: 1", () -> {
            PointOrShoot x = new PointOrShoot();
            Due.feed(x, ROWS_7 + "h0");
            Due.due("ground 1: h without a digit", x.ground(1), -1001);
            Due.due("tape", x.count(2), 0);
        });
        Due.sentence("1 to 120: 120", () -> {
            PointOrShoot x = new PointOrShoot();
            Due.due("bytes", GROUND_120.length(), 120);
            Due.due("ground", Due.ground(x, GROUND_120), 9);
            Due.due("the last height", x.count(163), 9);
            Due.due("a height of the seventh ROW", x.count(148), 6);
            Due.due("a height of the sixth ROW", x.count(147), 5);
        });
        Due.sentence("NONE: no such n (the tape stays)", () -> {
            PointOrShoot x = new PointOrShoot();
            Due.feed(x, GROUND_120 + "01234567890123456789");
            for (int n : Due.outside(1, 120)) {
                Due.due("ground " + n, x.ground(n), -1);
            }
            Due.due("ground 140", x.ground(140), -1);
            Due.due("tape", x.count(2), 140);
            Due.due("a height", x.count(163), 0);
            Due.due("ground 120 by that tape", x.ground(120), 9);
        });
        Due.sentence("NONE: it has not so many (the tape stays)", () -> {
            PointOrShoot x = new PointOrShoot();
            Due.due("ground 1 by an empty tape", x.ground(1), -1);
            Due.feed(x, "00000000/h0/h0/h0/h1/h0/0000000a0/d0a0c0");
            Due.due("ground 41 of 40", x.ground(41), -1);
            Due.due("tape", x.count(2), 40);
            Due.due("ground 40 of 40", x.ground(40), 1);
        });
        Due.sentence("(empty then)", () -> {
            PointOrShoot x = new PointOrShoot();
            Due.feed(x, ROWS_7 + "h0aaaaaaaaaaaaaaaaaaaa");
            Due.due("ground", x.ground(23), 0);
            Due.due("tape", x.count(2), 0);
            Due.feed(x, ROWS_7 + "h0aaaaaaaaaaaaaaaaaaaa");
            Due.due("a FAULT", x.ground(24), -6023);
            Due.due("tape", x.count(2), 0);
        });
        Due.sentence("likewise: in place of the one before", () -> {
            PointOrShoot x = new PointOrShoot();
            Due.ground(x, "h9/h9/h9/h9/h9/h9/h9/h9");
            Due.due("the highest", Due.ground(x, "0000000a3/h0/h0/h0/h0/h0/h0/1000000a2"), 3);
            Due.due("the first height", x.count(100), 0);
            Due.due("a height", x.count(130), 0);
            Due.due("the last height", x.count(163), 2);
        });
        Due.sentence("likewise: a FAULT (the one before stays)", () -> {
            PointOrShoot x = new PointOrShoot();
            Due.ground(x, "h4/h4/h4/h4/h4/h4/h4/h4");
            Due.due("a FAULT at the last place", Due.ground(x, ROWS_7 + "0000000"), -1028);
            for (int spot = 0; spot < 64; spot++) {
                Due.due("height " + spot, x.count(100 + spot), 4);
            }
        });
        Due.sentence("(the LOG stays)", () -> {
            PointOrShoot x = new PointOrShoot();
            x.drawn(-1, -1, 10000, 0, 0);
            Due.due("ground", Due.ground(x, ROWS_7 + "h5"), 5);
            Due.due("the LOG", x.log(0), 1);
            Due.ground(x, "x");
            Due.due("the LOG behind a FAULT", x.log(0), 1);
        });
        Due.sentence("heights 0 to 9: the highest height", () -> {
            for (int height = 0; height <= 9; height++) {
                PointOrShoot x = new PointOrShoot();
                Due.due("the highest", Due.ground(x, ROWS_7 + "0000000" + height), height);
                Due.due("the last height", x.count(163), height);
                Due.due("the highest", Due.ground(x, "b" + height + "000000/h0/h0/h0/h0/h0/h0/h0"), height);
                Due.due("the second height", x.count(101), height);
                Due.due("the third height", x.count(102), 0);
            }
            Due.due("the first spot alone", Due.ground(new PointOrShoot(), "50000001/h0/h0/h0/h0/h0/h0/h0"), 5);
        });
        Due.sentence("a letter a to h (1 to 8 times)", () -> {
            String zeros = "00000000";
            for (int times = 1; times <= 8; times++) {
                PointOrShoot x = new PointOrShoot();
                String row = (char) ('a' + times - 1) + "7" + zeros.substring(times);
                Due.due(row, Due.ground(x, "h0/" + row + "/h0/h0/h0/h0/h0/h0"), 7);
                Due.due("before", x.count(107), 0);
                Due.due("its last", x.count(107 + times), 7);
                Due.due("behind", x.count(108 + times), 0);
            }
        });
    }

    private static void badGround(String text, int answer) {
        PointOrShoot x = new PointOrShoot();
        Due.due(text, Due.ground(x, text), answer);
        Due.due("tape behind " + text, x.count(2), 0);
    }

    private static void groundFaults() {
        Due.promise(6);
        Due.sentence("1 what can't stand there: where a height is due", () -> {
            for (int sign = 1; sign < 256; sign++) {
                boolean isDigit = sign >= '0' && sign <= '9';
                boolean isLetter = sign >= 'a' && sign <= 'h';
                badGround("" + (char) sign, isDigit || isLetter ? -1001 : -1000);
            }
        });
        Due.sentence("1 what can't stand there: behind a letter", () -> {
            for (int sign = 1; sign < 256; sign++) {
                boolean isDigit = sign >= '0' && sign <= '9';
                badGround("b" + (char) sign, isDigit ? -1002 : -1001);
            }
        });
        Due.sentence("1 what can't stand there: behind a whole ROW", () -> {
            for (int sign = 1; sign < 256; sign++) {
                boolean isHeight = sign >= '0' && sign <= '9' || sign >= 'a' && sign <= 'h';
                badGround("h0" + (char) sign, isHeight ? -6002 : sign == '/' ? -1003 : -1002);
            }
        });
        Due.sentence("1 what can't stand there: behind the last ROW", () -> {
            for (int sign = 1; sign < 256; sign++) {
                boolean isHeight = sign >= '0' && sign <= '9' || sign >= 'a' && sign <= 'h';
                badGround(ROWS_7 + "h0" + (char) sign, isHeight ? -6023 : -1023);
            }
        });
        Due.sentence("1 what can't stand there (the end, too)", () -> {
            String text = "0a1b2c31/h0/h0/4e4b5/h0/h0/0g6/12345678";
            for (int n = 1; n < text.length(); n++) {
                PointOrShoot x = new PointOrShoot();
                Due.feed(x, text);
                Due.due("the first " + n + " bytes of " + text, x.ground(n), -1000 - n);
            }
            Due.due("all", Due.ground(new PointOrShoot(), text), 8);
        });
        Due.sentence("1 a ROW's end ahead of its 8th", () -> {
            badGround("/h0", -1000);
            badGround("0/", -1001);
            badGround("0000000/", -1007);
            badGround("g0/h0", -1002);
            badGround("h0//h0", -1003);
            badGround("h0/g0/h0", -1005);
            badGround(ROWS_7 + "g0/", -1023);
        });
        Due.sentence("6 more than 8 in a ROW, at the digit", () -> {
            badGround("000000000", -6008);
            badGround("h00", -6002);
            badGround("g000", -6003);
            badGround("h0/000000000", -6011);
            badGround(ROWS_7 + "0000000000", -6029);
        });
        Due.sentence("6 more than 8 in a ROW, at the letter", () -> {
            badGround("h0a0", -6002);
            badGround("0h0", -6001);
            badGround("g0b0", -6002);
            badGround("a0h0", -6002);
            badGround("d0e0", -6002);
            badGround("0000000b0", -6007);
            badGround(ROWS_7 + "f0c0", -6023);
        });
        Due.sentence("6 at the letter (asked ahead of its digit)", () -> {
            badGround("0h", -6001);
            badGround("g0b", -6002);
            badGround("g0bx", -6002);
            badGround("h0a/", -6002);
            badGround("h0hh", -6002);
        });
        Due.sentence("FAULTS, the first from the left", () -> {
            badGround("0000x0000", -1004);
            badGround("0000/000000000", -1004);
            badGround("h0h0/x", -6002);
            badGround("bx0000000", -1001);
        });
    }
}
