/**
 * Promises 7 to 20: each sentence of the document that names a boundary case, by a test of its own: whose turn it
 * is, chances by a law, values of ends, rules, games, a match, ends drawn and looked over.
 */
public final class BoundaryEndsTest {
    /** Points 5 tenths to ring 0, hits 8 tenths. */
    private static final String HALF = "a5(i=i);h8(i=i)";
    /** Side 0 points to ring 1 or both are gone; side 1 points to ring 3 or takes the place of a ball. */
    private static final String RING_1_OR_TAKEN = "b10(i=0);h10(i=i);k10(i=1)";
    private static final int[] NO_CODES = {-1, -10000, -30000, 4, 13, 22, 31, 40, 103, 112, 130, 301, 400, 1003, 1030, 1300, 3001, 3010, 3100,
        4000, 9999, 10003, 10012, 10300, 11020, 12001, 13000, 20002, 20011, 20020, 20200, 21001, 21100, 22000, 30001, 30010, 30100,
        31000, 33333, 39999, 40000, 50000, 65536, 65536 + 30000, 99999, 100000, 100001, 300000, 1 << 30, Integer.MIN_VALUE,
        Integer.MIN_VALUE + 30000, Integer.MAX_VALUE};

    private interface ByCodes {
        long of(int code, int other);
    }

    private interface ByOne {
        long of(int number);
    }

    public static void main(String[] args) {
        turn();
        points();
        chance();
        chanceTenths();
        chanceReckoned();
        chanceRefused();
        best();
        likely();
        goFor();
        toThrow();
        byRules();
        lastBall();
        game();
        match();
        drawn();
        drawnEdges();
        drawnAgainstRules();
        log();
        wrong();
        Due.end("sentences on ends hold");
    }

    private static void noCodes(long answer, ByCodes call) {
        for (int code : NO_CODES) {
            Due.due("with CODE " + code + " of SIDE 0", call.of(code, 10000), answer);
            Due.due("with CODE " + code + " of SIDE 1", call.of(10000, code), answer);
            Due.due("with CODE " + code + " of both", call.of(code, code), answer);
        }
    }

    private static void noSuch(String name, int[] numbers, long answer, ByOne call) {
        for (int number : numbers) {
            Due.due("with " + name + " " + number, call.of(number), answer);
        }
    }

    // ---- promise 7

    private static void turn() {
        PointOrShoot x = new PointOrShoot();
        Due.promise(7);
        Due.sentence("the SIDE whose BEST RING is higher plays", () -> {
            int[] ofRing = {11000, 10100, 10010, 10001};
            for (int ring = 0; ring < 3; ring++) {
                for (int last = 0; last < 2; last++) {
                    Due.due("RING " + ring + " of 0", x.turn(ofRing[ring], ofRing[ring + 1], last), 1);
                    Due.due("RING " + ring + " of 1", x.turn(ofRing[ring + 1], ofRing[ring], last), 0);
                }
            }
        });
        Due.sentence("BEST RING: the lowest in which one lies", () -> {
            Due.due("1 1 and 2", x.turn(10011, 10020, 0), 1);
            Due.due("RING 0 and 3, RING 1", x.turn(11001, 10200, 0), 1);
            Due.due("RING 1 and 3, RING 0", x.turn(10101, 11000, 1), 0);
        });
        Due.sentence("BEST RING (4: none)", () -> {
            Due.due("none and RING 3", x.turn(20000, 20001, 0), 0);
            Due.due("RING 3 and none", x.turn(20001, 20000, 1), 1);
            Due.due("none and none", x.turn(20000, 20000, 1), 0);
        });
        Due.sentence("if they are alike, the one that is not LAST", () -> {
            for (int last = 0; last < 2; last++) {
                Due.due("none", x.turn(30000, 30000, last), 1 - last);
                Due.due("RING 0", x.turn(11000, 12000, last), 1 - last);
                Due.due("RING 3", x.turn(20001, 10002, last), 1 - last);
            }
        });
        Due.sentence("if that has no BALL in hand, the other one", () -> {
            for (int last = 0; last < 2; last++) {
                Due.due("0 has the higher BEST RING", x.turn(1, 11000, last), 1);
                Due.due("1 has the higher BEST RING", x.turn(11000, 1, last), 0);
                Due.due("alike, 0 has none", x.turn(100, 10100, last), 1);
                Due.due("alike, 1 has none", x.turn(10100, 100, last), 0);
                Due.due("none lies, 0 has none", x.turn(0, 10000, last), 1);
                Due.due("none lies, 1 has none", x.turn(10000, 0, last), 0);
            }
        });
        Due.sentence("With none in hand on both the END is over: 2", () -> {
            for (int last = 0; last < 2; last++) {
                Due.due("none lies", x.turn(0, 0, last), 2);
                Due.due("all lie", x.turn(3000, 3, last), 2);
                Due.due("alike", x.turn(100, 100, last), 2);
            }
        });
        Due.sentence("BALLS in hand (0 to 3), in all with those in hand 3 at most: NONE: no such CODES", () -> {
            for (int code = -1200; code <= 41200; code++) {
                int inAll = code / 10000 + code / 1000 % 10 + code / 100 % 10 + code / 10 % 10 + code % 10;
                boolean isOne = code >= 0 && inAll <= 3;
                Due.due("CODE " + code, x.turn(code, 10000, 0) >= 0 ? 1 : 0, isOne ? 1 : 0);
                Due.due("CODE " + code + " of SIDE 1", x.turn(10000, code, 0) >= 0 ? 1 : 0, isOne ? 1 : 0);
            }
            noCodes(-1, (code, other) -> x.turn(code, other, 1));
        });
        Due.sentence("SIDES 0 and 1: NONE: no such SIDE", () -> {
            noSuch("LAST", Due.outside(0, 1), -1, last -> x.turn(10000, 10000, last));
            noSuch("LAST of an END that is over", Due.outside(0, 1), -1, last -> x.turn(0, 0, last));
            noSuch("LAST that does not matter", Due.outside(0, 1), -1, last -> x.turn(10000, 11000, last));
        });
    }

    // ---- promise 8

    private static void points() {
        PointOrShoot x = new PointOrShoot();
        Due.promise(8);
        Due.sentence("as many POINTS as it has balls in RINGS below the other one's BEST RING", () -> {
            Due.due("RING 0 and 1 below 2", x.points(1200, 10), 3);
            Due.due("RING 0 below 1", x.points(2000, 100), 2);
            Due.due("of 1", x.points(10, 1200), -3);
        });
        Due.sentence("not those in the other one's BEST RING, nor behind it", () -> {
            Due.due("one in it", x.points(2100, 100), 2);
            Due.due("two in it", x.points(1020, 10), 1);
            Due.due("one behind it", x.points(1101, 10), 2);
            Due.due("of 1, one in it", x.points(1, 1101), -2);
            Due.due("of 1, two behind it", x.points(100, 1020), -1);
        });
        Due.sentence("alike: nobody", () -> {
            for (int code : new int[] {1, 10, 100, 1000}) {
                Due.due("one each", x.points(code, code), 0);
                Due.due("three to one", x.points(3 * code, code), 0);
                Due.due("one to three", x.points(code, 3 * code), 0);
            }
            Due.due("none lies", x.points(0, 0), 0);
            Due.due("none lies, all in hand", x.points(30000, 30000), 0);
        });
        Due.sentence("BEST RING (4: none): all that lie", () -> {
            Due.due("three in RING 3", x.points(3, 0), 3);
            Due.due("of 1", x.points(0, 111), -3);
            Due.due("with others in hand", x.points(20001, 30000), 1);
        });
        Due.sentence("as balls lie now: those in hand are none", () -> {
            Due.due("of 0", x.points(21000, 20100), 1);
            Due.due("of 1", x.points(20001, 20010), -1);
        });
        Due.sentence("-100: no such CODES", () -> noCodes(-100, x::points));
    }

    // ---- promise 9

    private static void parts(String law, int... due) {
        PointOrShoot x = Due.by(law);
        for (int what = 0; what < 7; what++) {
            Due.due("part " + what + " by " + law, x.chance(20100, 30000, 0, what < 4 ? 1 : 2, what), due[what]);
        }
    }

    /** Tenths for ring 0, side 1 to play with 3 in hand, side 0 with 2 and one in ring 1. */
    private static void reckoned(String clauses, int tenths) {
        Due.due(clauses, Due.by(clauses).chance(20100, 30000, 0, 1, 0), 10 * tenths);
    }

    private static void chance() {
        Due.promise(9);
        Due.sentence("NONE: no such ones: CODES, SIDE", () -> {
            PointOrShoot x = Due.by(HALF);
            noCodes(-1, (code, other) -> x.chance(code, other, 1, 1, 0));
            noSuch("LAST", Due.outside(0, 1), -1, last -> x.chance(10000, 10000, last, 1, 0));
        });
        Due.sentence("A THROW: 1, 2; NONE: no such ones", () -> {
            PointOrShoot x = Due.by(HALF);
            noSuch("throwing", Due.outside(1, 2), -1, throwing -> x.chance(10000, 1000, 1, throwing, 0));
            noSuch("throwing", Due.outside(1, 2), -1, throwing -> x.chance(10000, 1000, 1, throwing, 4));
        });
        Due.sentence("what 0 to 3 (POINTING)", () -> {
            PointOrShoot x = Due.by(HALF);
            Due.due("0", x.chance(10000, 1000, 1, 1, 0), 50);
            Due.due("3", x.chance(10000, 1000, 1, 1, 3), 50);
            noSuch("what", Due.outside(0, 3), -1, what -> x.chance(10000, 1000, 1, 1, what));
            noSuch("what", new int[] {4, 5, 6}, -1, what -> x.chance(10000, 1000, 1, 1, what));
        });
        Due.sentence("what 4, 5, 6 (SHOOTING)", () -> {
            PointOrShoot x = Due.by(HALF);
            Due.due("4", x.chance(10000, 1000, 1, 2, 4), 0);
            Due.due("5", x.chance(10000, 1000, 1, 2, 5), 80);
            Due.due("6", x.chance(10000, 1000, 1, 2, 6), 20);
            noSuch("what", Due.outside(4, 6), -1, what -> x.chance(10000, 1000, 1, 2, what));
            noSuch("what", new int[] {0, 1, 2, 3}, -1, what -> x.chance(10000, 1000, 1, 2, what));
        });
        Due.sentence("NONE: the END is over", () -> {
            PointOrShoot x = Due.by(HALF);
            for (int what = 0; what < 7; what++) {
                Due.due("none lies", x.chance(0, 0, 1, what < 4 ? 1 : 2, what), -1);
                Due.due("some lie", x.chance(1000, 1000, 0, what < 4 ? 1 : 2, what), -1);
            }
        });
        Due.sentence("NONE: it can't SHOOT (if a ball of the other SIDE lies)", () -> {
            PointOrShoot x = Due.by(HALF);
            for (int what = 4; what < 7; what++) {
                Due.due("none lies", x.chance(30000, 30000, 1, 2, what), -1);
                Due.due("its own lie alone, 0", x.chance(12000, 0, 1, 2, what), -1);
                Due.due("its own lie alone, 1", x.chance(0, 12000, 1, 2, what), -1);
            }
            Due.due("one of 1 lies in RING 3", x.chance(10000, 1, 1, 2, 5), 80);
            Due.due("one of 0 lies in RING 3", x.chance(1, 10000, 1, 2, 5), 80);
        });
    }

    private static void chanceTenths() {
        Due.promise(9);
        Due.sentence("tenths (beyond 0 and 10 the bound)", () -> {
            parts("a10(i=i)", 100, 0, 0, 0, 0, 0, 100);
            parts("a11(i=i)", 100, 0, 0, 0, 0, 0, 100);
            parts("a99999(i=i)", 100, 0, 0, 0, 0, 0, 100);
            parts("a0(i=i)", 0, 0, 0, 100, 0, 0, 100);
            parts("a0-1(i=i)", 0, 0, 0, 100, 0, 0, 100);
            parts("b11(i=i)", 0, 100, 0, 0, 0, 0, 100);
            parts("b0-9(i=i);c9(i=i)", 0, 0, 90, 10, 0, 0, 100);
            parts("c11(i=i)", 0, 0, 100, 0, 0, 0, 100);
            parts("c0-9(i=i)", 0, 0, 0, 100, 0, 0, 100);
            parts("h11(i=i);k5(i=i)", 0, 0, 0, 100, 50, 50, 0);
            parts("h0-1(i=i);k5(i=i)", 0, 0, 0, 100, 0, 0, 100);
            parts("h5(i=i);k11(i=i)", 0, 0, 0, 100, 50, 0, 50);
            parts("h5(i=i);k0-1(i=i)", 0, 0, 0, 100, 0, 50, 50);
        });
        Due.sentence("tenths (none: 0): no CLAUSE of the letter", () -> {
            parts("b3(i=i);c2(i=i);k5(i=i)", 0, 30, 20, 50, 0, 0, 100);
            parts("a3(i=i);c2(i=i);h5(i=i)", 30, 0, 20, 50, 0, 50, 50);
            parts("a3(i=i);b2(i=i);h5(i=i)", 30, 20, 0, 50, 0, 50, 50);
        });
        Due.sentence("tenths (none: 0): no C holds", () -> {
            reckoned("a3(i=0);a4(u=0)", 0);
            parts("a3(i=0);b3(i=0);c3(i=0);h3(i=0);k3(i=0)", 0, 0, 0, 100, 0, 0, 100);
        });
        Due.sentence("of the first one of a letter whose C holds the E", () -> {
            reckoned("a3(i=0);a4(i=1);a5(i=1)", 4);
            reckoned("a3(i=i);a4(i=1);a5(i=1)", 3);
            reckoned("b9(i=i);h8(i=i);a5(i=1)", 5);
        });
        Due.sentence("b in RING 1 (as far as are left)", () -> {
            parts("a7(i=i);b3(i=i)", 70, 30, 0, 0, 0, 0, 100);
            parts("a7(i=i);b4(i=i)", 70, 30, 0, 0, 0, 0, 100);
            parts("a10(i=i);b10(i=i)", 100, 0, 0, 0, 0, 0, 100);
            // What is left is reckoned by a as it counts, within its bounds.
            parts("a0-5(i=i);b10(i=i)", 0, 100, 0, 0, 0, 0, 100);
            parts("a15(i=i);b1(i=i)", 100, 0, 0, 0, 0, 0, 100);
        });
        Due.sentence("c in RING 2 (likewise)", () -> {
            parts("a3(i=i);b3(i=i);c4(i=i)", 30, 30, 40, 0, 0, 0, 100);
            parts("a3(i=i);b3(i=i);c5(i=i)", 30, 30, 40, 0, 0, 0, 100);
            parts("a3(i=i);b8(i=i);c5(i=i)", 30, 70, 0, 0, 0, 0, 100);
            parts("a0-5(i=i);b0-5(i=i);c10(i=i)", 0, 0, 100, 0, 0, 0, 100);
        });
        Due.sentence("else in RING 3", () -> {
            parts("a1(i=i);b1(i=i);c1(i=i)", 10, 10, 10, 70, 0, 0, 100);
            parts("a3(i=i);b3(i=i);c3(i=i)", 30, 30, 30, 10, 0, 0, 100);
        });
        Due.sentence("of these k it stays in its place; else it is gone, too", () -> {
            parts("h10(i=i);k10(i=i)", 0, 0, 0, 100, 100, 0, 0);
            parts("h10(i=i)", 0, 0, 0, 100, 0, 100, 0);
            parts("h1(i=i);k1(i=i)", 0, 0, 0, 100, 1, 9, 90);
            parts("h7(i=i);k3(i=i)", 0, 0, 0, 100, 21, 49, 30);
            parts("k10(i=i)", 0, 0, 0, 100, 0, 0, 100);
        });
    }

    private static void chanceReckoned() {
        Due.promise(9);
        Due.sentence("a number of one to five digits", () -> {
            reckoned("a99999-99990(i=i)", 9);
            reckoned("a00007(i=i)", 7);
            reckoned("a10000/2000(i=i)", 5);
            reckoned("a7(99999=99998+1)", 7);
        });
        Due.sentence("from the left on", () -> {
            reckoned("a9-2-3(i=i)", 4);
            reckoned("a40/4/2(i=i)", 5);
            reckoned("a7/2*2(i=i)", 6);
            reckoned("a2*7/2(i=i)", 7);
            reckoned("a40%9*2(i=i)", 8);
            reckoned("a9-2*3(i=i)", 3);
            reckoned("a[9-6]*3(i=i)", 9);
        });
        Due.sentence("letters: m its BEST RING, n the other one's (4: none)", () -> {
            reckoned("am(i=i)", 4);
            reckoned("an(i=i)", 1);
            PointOrShoot x = Due.by("an*2(i=1);am*2(i=0)");
            Due.due("none of the other one lies", x.chance(20000, 21000, 0, 1, 0), 80);
            Due.due("RING 0", x.chance(12000, 21000, 0, 1, 0), 0);
            Due.due("RING 3", x.chance(12000, 20001, 0, 1, 0), 0);
            Due.due("RING 3 of 0", x.chance(10002, 20100, 0, 1, 0), 60);
        });
        Due.sentence("letters: u its BALLS in hand (the one that is thrown, too), v those of the other one", () -> {
            reckoned("au(i=i)", 3);
            reckoned("av(i=i)", 2);
            PointOrShoot x = Due.by("au(i=i);b[v+1](i=i)");
            Due.due("the last one", x.chance(10000, 0, 0, 1, 0), 10);
            Due.due("none of the other one", x.chance(10000, 0, 0, 1, 1), 10);
        });
        Due.sentence("letters: l whether it is LAST (1, 0)", () -> {
            PointOrShoot x = Due.by("al+1(i=i)");
            Due.due("0 plays, LAST", x.chance(10001, 10100, 0, 1, 0), 20);
            Due.due("0 plays, not LAST", x.chance(10001, 10100, 1, 1, 0), 10);
            Due.due("1 plays, LAST", x.chance(10100, 10001, 1, 1, 0), 20);
            Due.due("1 plays, not LAST", x.chance(10100, 10001, 0, 1, 0), 10);
        });
        Due.sentence("letters: s how many of its balls lie, o how many of the other one's", () -> {
            PointOrShoot x = Due.by("as(i=i);bo(i=i)");
            Due.due("two in two RINGS", x.chance(10011, 2100, 0, 1, 0), 20);
            Due.due("three of the other one", x.chance(10011, 2100, 0, 1, 1), 30);
            Due.due("none", x.chance(0, 30000, 0, 1, 0), 0);
        });
        Due.sentence("letters: f how FAR the pig is, i the SIDE that plays", () -> {
            PointOrShoot x = Due.by("af-2*[1-i](i=i)");
            Due.due("0", x.chance(10000, 0, 1, 1, 0), 60);
            Due.due("1", x.chance(0, 10000, 1, 1, 0), 80);
            x.far(6);
            Due.due("0 at 6", x.chance(10000, 0, 1, 1, 0), 40);
            x.far(10);
            Due.due("1 at 10", x.chance(0, 10000, 1, 1, 0), 100);
        });
        Due.sentence("All is reckoned with 32 bits, as the machine does", () -> {
            // Each by itself would be far beyond 10, or far below 0.
            reckoned("a65536*65536+5(i=i)", 5);
            reckoned("a46341*46341(i=i)", 0);
            reckoned("a32768*65535+32767(i=i)", 10);
            reckoned("a32768*65535+32767+1(i=i)", 0);
            reckoned("a0-32768*65535-32768(i=i)", 0);
            reckoned("a0-32768*[1+65535](i=i)", 0);
            reckoned("a0-[32768*65535]-32768-1(i=i)", 10);
            reckoned("a7(46341*46341<0)", 7);
            reckoned("a7(32768*65536<32768*65535)", 7);
            reckoned("a7(65536*65536=0)", 7);
        });
        Due.sentence("32 bits: the least number through -1 is itself, and leaves 0", () -> {
            reckoned("a7([0-32768*65535-32768]/[0-1]=0-32768*65535-32768)", 7);
            reckoned("a7([32768*65536]/[0-1]<0)", 7);
            reckoned("a7([32768*65536]%[0-1]=0)", 7);
        });
        Due.sentence("32 bits, as the machine does: through and left below 0", () -> {
            reckoned("a5+[1-8]/2(i=i)", 2);
            reckoned("a5+[1-8]%4(i=i)", 2);
            reckoned("a5+7/[0-2](i=i)", 2);
            reckoned("a5+7%[0-4](i=i)", 8);
        });
    }

    private static void chanceRefused() {
        Due.promise(9);
        Due.sentence("what is divided by 0 is REFUSED: then the C as a whole does not hold", () -> {
            reckoned("a1(1/0=1);a5(i=i)", 5);
            reckoned("a1(1/0=0);a5(i=i)", 5);
            reckoned("a1(0/0=0);a5(i=i)", 5);
            reckoned("a1(1%0=0);a5(i=i)", 5);
            reckoned("a1(1%0=1);a5(i=i)", 5);
            reckoned("a1(0=i/[u-3]);a5(i=i)", 5);
            reckoned("a1([1/0]*0=0);a5(i=i)", 5);
            reckoned("a1(i=i&1/0=0);a5(i=i)", 5);
        });
        Due.sentence("REFUSED through any !", () -> {
            reckoned("a1(!1/0=1);a5(i=i)", 5);
            reckoned("a1(!!1/0=1);a5(i=i)", 5);
            reckoned("a1(!1%0=0);a5(i=i)", 5);
        });
        Due.sentence("REFUSED through any ( )", () -> {
            reckoned("a1(!(1/0=1));a5(i=i)", 5);
            reckoned("a1((1/0=1)|i=i);a5(i=i)", 5);
            reckoned("a1(((i=i&1%0=1))|i=i);a5(i=i)", 5);
        });
        Due.sentence("REFUSED through any |", () -> {
            reckoned("a1(1/0=1|i=i);a5(i=i)", 5);
            reckoned("a1(i=i&1/0=1|i=i);a5(i=i)", 5);
            reckoned("a1(i=0|1/0=1|i=i);a5(i=i)", 5);
        });
        Due.sentence("REFUSED again and again: what comes behind is reckoned as ever", () -> {
            PointOrShoot x = Due.by("a1([5+[5+[5+[5+[1/0]]]]]=1);a5(1+1=2);h1(3=[3+[3+1/0]]);h8(3=1+[1+1])");
            Due.due("VALUE of six", x.best(30000, 30000, 1, 0), Due.by(HALF).best(30000, 30000, 1, 0));
            Due.due("a", x.chance(20100, 30000, 0, 1, 0), 50);
            Due.due("h", x.chance(20100, 30000, 0, 2, 5), 80);
        });
        Due.sentence("REFUSED: an E is 0", () -> {
            reckoned("a1/0(i=i);a5(i=i)", 0);
            reckoned("a5%0(i=i);a5(i=i)", 0);
            reckoned("a5+1/0(i=i)", 0);
            reckoned("a5+[1%0](i=i)", 0);
            reckoned("a1/0+5(i=i)", 0);
            reckoned("a5-0*[1/[u-3]](i=i)", 0);
        });
        Due.sentence("Of a C as much is asked, from the left, as matters", () -> {
            reckoned("a1(i=i|1/0=1);a5(i=i)", 1);
            reckoned("a1(i=0&1/0=1|i=i);a5(i=i)", 1);
            reckoned("a1(!(i=0&1/0=1));a5(i=i)", 1);
            reckoned("a1((i=i|1/0=1)&i=i);a5(i=i)", 1);
            reckoned("a1(i=i|i=0&1/0=1|1/0=1);a5(i=i)", 1);
            reckoned("a1(i=0&i=i&1/0=1|u=3);a5(i=i)", 1);
        });
        Due.sentence("PARTS one of which must hold, PIECES all of which must", () -> {
            reckoned("a1(i=0|i=0|i=i);a5(i=i)", 1);
            reckoned("a1(i=0|i=0|i=0);a5(i=i)", 5);
            reckoned("a1(i=i&i=i&i=0);a5(i=i)", 5);
            reckoned("a1(i=i&i=i&i=i);a5(i=i)", 1);
            reckoned("a1(i=i|i=0&i=0);a5(i=i)", 1);
            reckoned("a1(i=0&i=0|i=i);a5(i=i)", 1);
        });
        Due.sentence("< > =: as near as can be", () -> {
            reckoned("a1(2<3);a5(i=i)", 1);
            reckoned("a1(3<3);a5(i=i)", 5);
            reckoned("a1(3>2);a5(i=i)", 1);
            reckoned("a1(3>3);a5(i=i)", 5);
            reckoned("a1(3=3);a5(i=i)", 1);
            reckoned("a1(3=4);a5(i=i)", 5);
            reckoned("a1(4=3);a5(i=i)", 5);
            reckoned("a1(0-1<0);a5(i=i)", 1);
        });
    }

    // ---- promise 10

    private static void best() {
        Due.promise(10);
        Due.sentence("in hundredths for each BALL in hand of both (100 times 100 ..)", () -> {
            PointOrShoot x = Due.by("a10(i=0)");
            Due.due("no BALL", x.best(3000, 100, 1, 0), 3);
            Due.due("1", x.best(10000, 0, 1, 0), 100);
            Due.due("1 of SIDE 1", x.best(1000, 10000, 1, 0), 100);
            Due.due("2", x.best(20000, 0, 1, 0), 20000);
            Due.due("2 of both", x.best(10000, 10000, 1, 0), 10000);
            Due.due("3", x.best(30000, 0, 1, 0), 3000000);
            Due.due("4", x.best(30000, 10000, 0, 0), 300000000);
            Due.due("5", x.best(30000, 20000, 1, 0), 30000000000L);
            Due.due("6", x.best(30000, 30000, 0, 0), 3 * Due.END);
            Due.due("6 of SIDE 1", Due.by("a10(i=1)").best(30000, 30000, 0, 0), -3 * Due.END);
        });
        Due.sentence("a CODE: those with most and with fewest", () -> {
            PointOrShoot x = Due.by("a10(i=i);h10(i=i)");
            Due.due("all lie, all in hand", x.best(3, 30000, 1, 0), -3000000);
            Due.due("all in hand, all lie", x.best(30000, 3, 0, 0), 3000000);
            // Each of three is shot at first sight.
            Due.due("three in RING 0, all in hand", x.best(3000, 30000, 1, 0), 0);
            Due.due("all in hand, three in RING 0", x.best(30000, 3000, 1, 0), 0);
            Due.due("three in RING 0, one in hand", x.best(3000, 10000, 1, 0), 0);
            Due.due("three in RING 0, none", x.best(3000, 0, 1, 0), 3);
            PointOrShoot y = Due.by("b10(i=i)");
            Due.due("three in RING 0, all in hand", y.best(3000, 30000, 1, 0), 3000000);
            Due.due("all in hand, three in RING 0", y.best(30000, 3000, 1, 0), -3000000);
            Due.due("two in RING 0, one in 1, all in hand", y.best(2100, 30000, 1, 0), 2000000);
            Due.due("two in RING 0, one in hand, all in hand", y.best(12000, 30000, 0, 0), 200000000);
            Due.due("none left, all in hand", y.best(0, 30000, 1, 0), -3000000);
            Due.due("two left, one in hand", y.best(20000, 10000, 1, 0), 0);
        });
        Due.sentence("hundredths: 1 and 9 of 100", () -> {
            PointOrShoot x = Due.by("h1(i=i);k1(i=i)");
            Due.due("one ball", x.best(10000, 1000, 1, 0), -89);
            Due.due("it stays", x.likely(10000, 1000, 1, 1), 1);
            Due.due("it is gone, too", x.likely(10000, 1000, 1, 0), 9);
            Due.due("it misses", x.likely(10000, 1000, 1, -1), 90);
            Due.due("at least 1", x.goFor(10000, 1000, 1, 1, 0), 1);
        });
        Due.sentence("what 0 the VALUE of an END that is over", () -> {
            PointOrShoot x = Due.by(HALF);
            Due.due("of 0", x.best(1110, 1, 0, 0), 3);
            Due.due("of 1", x.best(1, 1110, 0, 0), -3);
            Due.due("nobody", x.best(0, 0, 0, 0), 0);
        });
        Due.sentence("1 the THROW (NONE: the END is over)", () -> {
            PointOrShoot x = Due.by(HALF);
            Due.due("none lies", x.best(0, 0, 0, 1), -1);
            Due.due("some lie", x.best(1000, 2000, 1, 1), -1);
        });
        Due.sentence("SIDE 0 plays so that it has most, SIDE 1 fewest", () -> {
            PointOrShoot x = Due.by(HALF);
            Due.due("0 to shoot", x.best(10000, 1000, 1, 0), -20);
            Due.due("THROW", x.best(10000, 1000, 1, 1), 2);
            Due.due("1 to shoot", x.best(1000, 10000, 1, 0), 20);
            Due.due("THROW", x.best(1000, 10000, 1, 1), 2);
            Due.due("0 to point", x.best(10000, 1, 1, 0), 50);
            Due.due("THROW", x.best(10000, 1, 1, 1), 1);
            Due.due("1 to point", x.best(1, 10000, 1, 0), -50);
            Due.due("THROW", x.best(1, 10000, 1, 1), 1);
        });
        Due.sentence("of like THROWS 1", () -> {
            // Both leave the other one's POINT in 50 of 100.
            PointOrShoot x = Due.by("a5(i=i);h5(i=i)");
            Due.due("0", x.best(10000, 1000, 1, 1), 1);
            Due.due("1", x.best(1000, 10000, 1, 1), 1);
            Due.due("nothing matters", Due.by("h5(i=0)").best(10000, 2000, 1, 1), 2);
            Due.due("nothing matters", new PointOrShoot().best(10000, 2000, 1, 1), 1);
        });
        Due.sentence("it SHOOTS (if a ball of the other SIDE lies)", () -> {
            PointOrShoot x = Due.by("h10(i=i);k10(i=i)");
            Due.due("none of the other one", x.best(11000, 0, 1, 1), 1);
            Due.due("VALUE", x.best(11000, 0, 1, 0), 200);
            Due.due("none of the other one for 1", x.best(0, 11000, 1, 1), 1);
            Due.due("one in RING 3 is shot: its place is behind RING 0", x.best(11000, 1, 1, 0), 200);
        });
        Due.sentence("a ball in the other SIDE's BEST RING is gone", () -> {
            PointOrShoot x = Due.by("h10(i=i)");
            Due.due("RING 1 behind RING 0", x.best(10000, 1100, 1, 0), -100);
            Due.due("two in RING 0", x.best(10000, 2000, 1, 0), -100);
            Due.due("the only one", x.best(10010, 1000, 1, 0), 100);
        });
        Due.sentence("-2000000000000000000: no such ones", () -> {
            PointOrShoot x = Due.by(HALF);
            for (int what = 0; what < 2; what++) {
                int one = what;
                noCodes(Due.NO_VALUE, (code, other) -> x.best(code, other, 1, one));
                noSuch("LAST", Due.outside(0, 1), Due.NO_VALUE, last -> x.best(10000, 10000, last, one));
            }
            noSuch("what", Due.outside(0, 1), Due.NO_VALUE, what -> x.best(10000, 10000, 0, what));
            noSuch("what of an END that is over", Due.outside(0, 1), Due.NO_VALUE, what -> x.best(0, 0, 0, what));
        });
    }

    // ---- promise 11

    private static void likely() {
        Due.promise(11);
        Due.sentence("CHANCE of a count (-3 to 3)", () -> {
            for (int side = 0; side < 2; side++) {
                for (int count = 0; count <= 3; count++) {
                    // So many balls of a side come to lie in ring 0, all others in ring 3.
                    PointOrShoot x = Due.by("a10(i=" + side + "&s<" + count + ")");
                    int due = count == 0 ? 0 : side == 0 ? count : -count;
                    for (int asked = -3; asked <= 3; asked++) {
                        Due.due("count " + asked + " for " + due, x.likely(30000, 30000, 1, asked), asked == due ? Due.END : 0);
                    }
                }
            }
        });
        Due.sentence("-1: no such ones", () -> {
            PointOrShoot x = Due.by(HALF);
            noSuch("count", Due.outside(-3, 3), -1, count -> x.likely(10000, 10000, 1, count));
            noSuch("count of an END that is over", Due.outside(-3, 3), -1, count -> x.likely(0, 0, 1, count));
            noCodes(-1, (code, other) -> x.likely(code, other, 1, 0));
            noSuch("LAST", Due.outside(0, 1), -1, last -> x.likely(10000, 10000, last, 0));
        });
        Due.sentence("of those hundredths: of an END that is over", () -> {
            PointOrShoot x = Due.by(HALF);
            for (int count = -3; count <= 3; count++) {
                Due.due("count " + count + " of 2", x.likely(2100, 100, 0, count), count == 2 ? 1 : 0);
                Due.due("count " + count + " of -3", x.likely(0, 300, 0, count), count == -3 ? 1 : 0);
            }
        });
        Due.sentence("of those hundredths: all counts together are all of them", () -> {
            PointOrShoot x = Due.by("a2(i=i);b3(i=i);c1(i=i);h7(i=i);k3(i=i)");
            long[] due = {1, 100, 10000, 1000000, 100000000L, 10000000000L, Due.END};
            int[][] states = {{1000, 100}, {10000, 1000}, {10100, 11000}, {20000, 11000}, {20000, 20100}, {30000, 20000}, {30000, 30000}};
            for (int balls = 0; balls <= 6; balls++) {
                long sum = 0;
                for (int count = -3; count <= 3; count++) {
                    sum += x.likely(states[balls][0], states[balls][1], 0, count);
                }
                Due.due("with " + balls + " in hand", sum, due[balls]);
            }
        });
        Due.sentence("both at their BEST", () -> {
            PointOrShoot x = Due.by(HALF);
            Due.due("1 shoots", x.likely(1000, 10000, 0, 1), 20);
            // Both THROWS have a mean of 0: pointing never leaves a POINT, shooting 1 or -1.
            PointOrShoot y = Due.by("a10(i=i);h5(i=i);k10(i=i)");
            Due.due("of like THROWS 1", y.likely(10000, 1000, 1, 0), 100);
            Due.due("of like THROWS 1, of SIDE 1", y.likely(1000, 10000, 1, 0), 100);
        });
        Due.sentence("both at their BEST: whatever was asked before", () -> {
            PointOrShoot x = byRule(HALF, "r1(i=i)");
            x.by(0, 0, 1000, 10000, 0, 0);
            Due.due("1 shoots", x.likely(1000, 10000, 0, 1), 20);
            x.goFor(1000, 10000, 0, 0, 0);
            Due.due("1 shoots", x.likely(1000, 10000, 0, 0), 80);
            PointOrShoot y = byRule(HALF, "r1(i=i)");
            y.by(-1, 0, 10000, 10000, 1, 0);
            Due.due("0 points, 1 shoots or points", y.likely(10000, 10000, 1, -1), 2500);
            Due.due("0 points, 1 shoots or points", y.likely(10000, 10000, 1, 1), 1000);
            PointOrShoot z = byRule(HALF, "r1(i=i)");
            z.by(0, -1, 10000, 10000, 0, 0);
            Due.due("1 points, 0 shoots or points", z.likely(10000, 10000, 0, 1), 2500);
            Due.due("1 points, 0 shoots or points", z.likely(10000, 10000, 0, -1), 1000);
        });
    }

    // ---- promise 12

    private static void goFor() {
        Due.promise(12);
        Due.sentence("GO FOR a count (-3 to 3): so many at least", () -> {
            for (int side = 0; side < 2; side++) {
                for (int count = 0; count <= 3; count++) {
                    PointOrShoot x = Due.by("a10(i=" + side + "&s<" + count + ")");
                    int due = count == 0 ? 0 : side == 0 ? count : -count;
                    for (int asked = -3; asked <= 3; asked++) {
                        Due.due(asked + " at least of " + due, x.goFor(30000, 30000, 1, asked, 0), asked <= due ? Due.END : 0);
                    }
                }
            }
        });
        Due.sentence("of an END that is over", () -> {
            PointOrShoot x = Due.by(HALF);
            for (int count = -3; count <= 3; count++) {
                Due.due(count + " at least of 1", x.goFor(1100, 100, 0, count, 0), count <= 1 ? 1 : 0);
                Due.due(count + " at least of -3", x.goFor(0, 3, 0, count, 0), count <= -3 ? 1 : 0);
            }
        });
        Due.sentence("SIDE 0 likeliest, SIDE 1 least", () -> {
            PointOrShoot x = Due.by(HALF);
            Due.due("0 shoots for 0", x.goFor(10000, 1000, 1, 0, 0), 80);
            Due.due("THROW", x.goFor(10000, 1000, 1, 0, 1), 2);
            Due.due("1 shoots against 1", x.goFor(1000, 10000, 1, 1, 0), 20);
            Due.due("THROW", x.goFor(1000, 10000, 1, 1, 1), 2);
            Due.due("1 points against 0", x.goFor(1, 10000, 1, 0, 0), 50);
            Due.due("THROW", x.goFor(1, 10000, 1, 0, 1), 1);
        });
        Due.sentence("of like THROWS 1", () -> {
            PointOrShoot x = Due.by(HALF);
            Due.due("sure", x.goFor(10000, 1000, 1, -1, 1), 1);
            Due.due("never", x.goFor(10000, 1000, 1, 3, 1), 1);
            Due.due("sure for 1", x.goFor(1000, 10000, 1, -1, 1), 1);
            Due.due("never for 1", x.goFor(1000, 10000, 1, 3, 1), 1);
        });
        Due.sentence("1 the THROW (NONE: the END is over)", () -> {
            PointOrShoot x = Due.by(HALF);
            Due.due("none lies", x.goFor(0, 0, 0, 0, 1), -1);
            Due.due("some lie", x.goFor(100, 1000, 0, -3, 1), -1);
        });
        Due.sentence("-2000000000000000000: no such ones", () -> {
            PointOrShoot x = Due.by(HALF);
            for (int what = 0; what < 2; what++) {
                int one = what;
                noSuch("count", Due.outside(-3, 3), Due.NO_VALUE, count -> x.goFor(10000, 10000, 1, count, one));
                noSuch("count of an END that is over", Due.outside(-3, 3), Due.NO_VALUE, count -> x.goFor(0, 0, 1, count, one));
                noCodes(Due.NO_VALUE, (code, other) -> x.goFor(code, other, 1, 0, one));
                noSuch("LAST", Due.outside(0, 1), Due.NO_VALUE, last -> x.goFor(10000, 10000, last, 0, one));
            }
            noSuch("what", Due.outside(0, 1), Due.NO_VALUE, what -> x.goFor(10000, 10000, 0, 0, what));
        });
    }

    // ---- promise 13

    private static void toThrow() {
        Due.promise(13);
        Due.sentence("it may have it 6 to 10 FAR", () -> {
            for (int far = 6; far <= 10; far++) {
                for (int side = 0; side < 2; side++) {
                    PointOrShoot x = Due.by("a10(i=" + side + "&f=" + far + ")");
                    Due.due("FAR for " + side, x.toThrow(side, 0), far);
                    Due.due("VALUE for " + side, x.toThrow(side, 1), side == 0 ? 3 * Due.END : -3 * Due.END);
                }
            }
        });
        Due.sentence("best for it: SIDE 0 most, SIDE 1 fewest", () -> {
            PointOrShoot x = Due.by("a10(f=7&i=0|f=9&i=1)");
            Due.due("FAR for 0", x.toThrow(0, 0), 7);
            Due.due("VALUE for 0", x.toThrow(0, 1), 3 * Due.END);
            Due.due("FAR for 1", x.toThrow(1, 0), 9);
            Due.due("VALUE for 1", x.toThrow(1, 1), -3 * Due.END);
        });
        Due.sentence("of like ones the nearest", () -> {
            PointOrShoot x = Due.by("a10(i=0&f=9|i=0&f=7|i=0&f=10)");
            Due.due("7 of 7, 9, 10", x.toThrow(0, 0), 7);
            Due.due("6 of 6, 8", x.toThrow(1, 0), 6);
            Due.due("VALUE", x.toThrow(1, 1), 0);
            PointOrShoot y = Due.by("a10(i=1&f>7)");
            Due.due("8 of 8, 9, 10", y.toThrow(1, 0), 8);
            Due.due("6 of all", new PointOrShoot().toThrow(1, 0), 6);
        });
        Due.sentence("(FAR stays as it is.)", () -> {
            PointOrShoot x = Due.by("af-5(i=i)");
            x.far(9);
            x.drawn(-1, -1, 10000, 0, 1);
            x.toThrow(0, 0);
            x.toThrow(1, 1);
            Due.due("FAR", x.count(0), 9);
            Due.due("a chance", x.chance(10000, 0, 1, 1, 0), 40);
            Due.due("the LOG", x.log(0), 1);
        });
        Due.sentence("-2000000000000000000: no such ones", () -> {
            PointOrShoot x = Due.by(HALF);
            noSuch("SIDE", Due.outside(0, 1), Due.NO_VALUE, first -> x.toThrow(first, 0));
            noSuch("SIDE", Due.outside(0, 1), Due.NO_VALUE, first -> x.toThrow(first, 1));
            noSuch("what", Due.outside(0, 1), Due.NO_VALUE, what -> x.toThrow(0, what));
        });
    }

    // ---- promise 14

    private static PointOrShoot byRule(String law, String rule) {
        PointOrShoot x = Due.by(law);
        Due.due("rule " + rule, Due.rule(x, 0, rule), rule.split(";").length);
        return x;
    }

    private static void byRules() {
        Due.promise(14);
        Due.sentence("2 it SHOOTS (if it can), else it POINTS", () -> {
            int[] numbers = {0, 1, 2, 3, 4, 12, 20, 22, 99999};
            for (int number : numbers) {
                PointOrShoot x = byRule(HALF, "r" + number + "(i=i)");
                Due.due("0 by " + number, x.by(0, 0, 10000, 1000, 1, 1), number == 2 ? 2 : 1);
                Due.due("1 by " + number, x.by(0, 0, 1000, 10000, 1, 1), number == 2 ? 2 : 1);
                Due.due("0 can't by " + number, x.by(0, 0, 11000, 0, 1, 1), 1);
                Due.due("1 can't by " + number, x.by(0, 0, 0, 11000, 1, 1), 1);
            }
            Due.due("below 0", byRule(HALF, "r0-2(i=i)").by(0, 0, 10000, 1000, 1, 1), 1);
            Due.due("32 bits", byRule(HALF, "r65536*65536+2(i=i)").by(0, 0, 10000, 1000, 1, 1), 2);
            Due.due("it can't: VALUE", byRule(HALF, "r2(i=i)").by(0, 0, 10000, 0, 1, 0), 100);
        });
        Due.sentence("without one it POINTS", () -> {
            Due.due("no C holds", byRule(HALF, "r2(i=1);r2(1/0=0)").by(0, 0, 10000, 1000, 1, 1), 1);
            Due.due("the first whose C holds", byRule(HALF, "r2(i=1);r2(i=0);r1(i=0)").by(0, 0, 10000, 1000, 1, 1), 2);
            Due.due("the first whose C holds", byRule(HALF, "r2(i=1);r1(i=0);r2(i=0)").by(0, 0, 10000, 1000, 1, 1), 1);
        });
        Due.sentence("REFUSED: an E is 0: it POINTS", () -> {
            Due.due("E", byRule(HALF, "r2/0(i=i);r2(i=i)").by(0, 0, 10000, 1000, 1, 1), 1);
            Due.due("E", byRule(HALF, "r2+0*[1%0](i=i)").by(0, 0, 10000, 1000, 1, 1), 1);
        });
        Due.sentence("RULES 0 to 3 (NONE: BEST)", () -> {
            PointOrShoot x = Due.by(HALF);
            for (int k = 0; k < 4; k++) {
                Due.rule(x, k, k % 2 == 0 ? "r1(i=i)" : "r2(i=i)");
            }
            for (int j = -1; j < 4; j++) {
                // To shoot is best at a ball in ring 0, to point at one in ring 3.
                Due.due("0 by " + j, x.by(j, -1, 10000, 1000, 1, 1), j % 2 == 0 ? 1 : 2);
                Due.due("0 by " + j, x.by(j, -1, 10000, 1, 1, 1), j == -1 || j % 2 == 0 ? 1 : 2);
                Due.due("1 by " + j, x.by(-1, j, 1000, 10000, 1, 1), j % 2 == 0 ? 1 : 2);
                Due.due("1 by " + j, x.by(-1, j, 1, 10000, 1, 1), j == -1 || j % 2 == 0 ? 1 : 2);
            }
            noSuch("RULE of 0", Due.outside(-1, 3), Due.NO_VALUE, j -> x.by(j, 0, 10000, 1000, 1, 0));
            noSuch("RULE of 1", Due.outside(-1, 3), Due.NO_VALUE, k -> x.by(0, k, 10000, 1000, 1, 0));
        });
        Due.sentence("-2000000000000000000: not told", () -> {
            PointOrShoot x = Due.by(HALF);
            Due.rule(x, 1, "r2(i=i)");
            for (int k = 0; k < 4; k++) {
                if (k != 1) {
                    for (int what = 0; what < 2; what++) {
                        Due.due("by " + k + ", 1", x.by(k, 1, 10000, 1000, 1, what), Due.NO_VALUE);
                        Due.due("by 1, " + k, x.by(1, k, 10000, 1000, 1, what), Due.NO_VALUE);
                        Due.due("by NONE, " + k, x.by(-1, k, 0, 0, 1, what), Due.NO_VALUE);
                    }
                }
            }
            Due.due("told", x.by(1, 1, 10000, 1000, 1, 1), 2);
        });
        Due.sentence("a SIDE by RULE NONE plays its BEST against what the other one does", () -> {
            PointOrShoot x = byRule(RING_1_OR_TAKEN, "r1(i=i)");
            Due.due("against its BEST", x.by(-1, -1, 10000, 10010, 1, 1), 2);
            Due.due("against a RULE", x.by(-1, 0, 10000, 10010, 1, 1), 1);
            Due.due("VALUE against a RULE", x.by(-1, 0, 10000, 10010, 1, 0), 10000);
        });
        Due.sentence("of like THROWS 1, with a RULE of the other one, too", () -> {
            PointOrShoot x = byRule("a5(i=i);h5(i=i)", "r2(i=i)");
            Due.due("0", x.by(-1, 0, 10000, 1000, 1, 1), 1);
            Due.due("1", x.by(0, -1, 1000, 10000, 1, 1), 1);
        });
        Due.sentence("1 the THROW (NONE: the END is over)", () -> {
            PointOrShoot x = byRule(HALF, "r2(i=i)");
            Due.due("by a RULE", x.by(0, 0, 1000, 100, 1, 1), -1);
            Due.due("by BEST", x.by(-1, -1, 0, 0, 1, 1), -1);
            Due.due("VALUE", x.by(0, -1, 1000, 100, 1, 0), 1);
        });
        Due.sentence("-2000000000000000000: no such ones", () -> {
            PointOrShoot x = byRule(HALF, "r2(i=i)");
            noCodes(Due.NO_VALUE, (code, other) -> x.by(0, -1, code, other, 1, 0));
            noCodes(Due.NO_VALUE, (code, other) -> x.by(-1, -1, code, other, 1, 1));
            noSuch("LAST", Due.outside(0, 1), Due.NO_VALUE, last -> x.by(0, 0, 10000, 10000, last, 0));
            noSuch("what", Due.outside(0, 1), Due.NO_VALUE, what -> x.by(0, 0, 10000, 10000, 1, what));
        });
    }

    // ---- promise 15

    private static void lastBall() {
        Due.promise(15);
        Due.sentence("SIDE 1 to play first less that with SIDE 0", () -> {
            PointOrShoot x = Due.by("a10(v=3)");
            Due.due("what 1", x.lastBall(1), Due.END);
            Due.due("what 2", x.lastBall(2), -Due.END);
            Due.due("what 0", x.lastBall(0), -2 * Due.END);
            PointOrShoot y = Due.by("a10(v=3&i=0)");
            Due.due("what 0", y.lastBall(0), -Due.END);
            Due.due("what 1", y.lastBall(1), Due.END);
            Due.due("what 2", y.lastBall(2), 0);
        });
        Due.sentence("LAST the one that does not play first", () -> {
            PointOrShoot x = Due.by("a10(u=3&v=3&l=0)");
            Due.due("what 1", x.lastBall(1), Due.END);
            Due.due("what 2", x.lastBall(2), -Due.END);
            Due.due("never LAST", Due.by("a10(u=3&v=3&l=1)").lastBall(1), 0);
        });
        Due.sentence("-2000000000000000000: no such what", () -> {
            PointOrShoot x = Due.by(HALF);
            noSuch("what", Due.outside(0, 2), Due.NO_VALUE, x::lastBall);
        });
    }

    // ---- promise 16

    private static void game() {
        Due.promise(16);
        Due.sentence("-2: no RULE is told", () -> {
            PointOrShoot x = Due.by(HALF);
            for (int what = 0; what < 4; what++) {
                Due.due("what " + what, x.game(what), -2);
            }
            Due.rule(x, 3, "r1(i=i);");
            Due.due("behind a FAULT", x.game(0), -2);
        });
        Due.sentence("-1: no such what", () -> {
            PointOrShoot x = byRule(HALF, "r1(i=i)");
            noSuch("what", Due.outside(0, 3), -1, x::game);
        });
        Due.sentence("NONE is told first: no such what, and no RULE", () -> {
            PointOrShoot x = Due.by(HALF);
            noSuch("what", Due.outside(0, 3), -1, x::game);
        });
        Due.sentence("of told RULES: one alone, each", () -> {
            for (int k = 0; k < 4; k++) {
                PointOrShoot x = Due.by("a10(i=0)");
                Due.rule(x, k, "r1(i=i)");
                Due.due("LOW", x.game(0), 3 * Due.END);
                Due.due("RULE", x.game(1), k);
                Due.due("HIGH", x.game(2), 3 * Due.END);
                Due.due("RULE", x.game(3), k);
            }
        });
        Due.sentence("VALUES may be below 0: those of RULES not told are none", () -> {
            PointOrShoot x = Due.by("a10(i=1)");
            Due.rule(x, 2, "r1(i=i)");
            Due.due("LOW", x.game(0), -3 * Due.END);
            Due.due("HIGH", x.game(2), -3 * Due.END);
            PointOrShoot y = Due.by("a10(i=0)");
            Due.rule(y, 1, "r1(i=i)");
            Due.due("LOW", y.game(0), 3 * Due.END);
            Due.due("HIGH", y.game(2), 3 * Due.END);
        });
        Due.sentence("LOW: the greatest, over j, of the least over k", () -> {
            PointOrShoot x = gameOfTwo();
            Due.due("LOW", x.game(0), 0);
            Due.rule(x, 1, "r1(u=3);r2(i=0)");
            // Now SIDE 1 never shoots: 1 by any is 1, 3 by any is 3.
            Due.due("LOW", x.game(0), 3 * Due.END);
            Due.due("by RULE", x.game(1), 3);
        });
        Due.sentence("HIGH: the least, over k, of the greatest over j", () -> {
            PointOrShoot x = gameOfTwo();
            Due.due("HIGH", x.game(2), 0);
            Due.due("by RULE", x.game(3), 1);
            PointOrShoot y = Due.by("a10(i=0);h10(i=1)");
            Due.rule(y, 0, "r1(i=i)");
            Due.rule(y, 2, "r2(i=i)");
            Due.due("by the RULE that shoots", y.game(3), 2);
        });
        Due.sentence("LOW and HIGH of a game in which they are not alike", () -> {
            // 1 by 1: 0. 1 by 2: -90. 2 by 1: -100. 2 by 2: 0 (millions of thousands).
            PointOrShoot x = Due.by(HALF);
            Due.rule(x, 1, "r2(u=1)");
            Due.rule(x, 2, "r2(u=2)");
            Due.due("1 by 2", x.by(1, 2, 30000, 30000, 1, 0), -90000000000L);
            Due.due("2 by 1", x.by(2, 1, 30000, 30000, 1, 0), -100000000000L);
            Due.due("LOW", x.game(0), -90000000000L);
            Due.due("LOW by", x.game(1), 1);
            Due.due("HIGH", x.game(2), 0);
            Due.due("HIGH by, the lowest", x.game(3), 1);
            // 0 by 0: 0. 0 by 3: -111.25. 3 by 0: -76.25. 3 by 3: 39.375.
            PointOrShoot y = Due.by(HALF);
            Due.rule(y, 0, "r2(u=2)");
            Due.rule(y, 3, "r2(l=1)");
            Due.due("0 by 3", y.by(0, 3, 30000, 30000, 1, 0), -111250000000L);
            Due.due("3 by 0", y.by(3, 0, 30000, 30000, 1, 0), -76250000000L);
            Due.due("3 by 3", y.by(3, 3, 30000, 30000, 1, 0), 39375000000L);
            Due.due("LOW", y.game(0), -76250000000L);
            Due.due("LOW by", y.game(1), 3);
            Due.due("HIGH", y.game(2), 0);
            Due.due("HIGH by", y.game(3), 0);
        });
        Due.sentence("of like ones the lowest", () -> {
            PointOrShoot x = Due.by("a10(i=0)");
            for (int k = 3; k >= 1; k--) {
                Due.rule(x, k, "r1(i=i)");
            }
            Due.due("LOW by RULE", x.game(1), 1);
            Due.due("HIGH by RULE", x.game(3), 1);
        });
        Due.sentence("at its begin with SIDE 0 to play first", () -> {
            PointOrShoot x = byRule("a10(v=3)", "r1(i=i)");
            Due.due("LOW", x.game(0), Due.END);
            Due.due("HIGH", x.game(2), Due.END);
        });
    }

    /** RULE 1 shoots, RULE 3 points. VALUES: 1 by 1: 0. 1 by 3: 1. 3 by 1: 0. 3 by 3: 3. */
    private static PointOrShoot gameOfTwo() {
        PointOrShoot x = Due.by("a10(i=0);h10(i=1)");
        Due.rule(x, 1, "r2(i=i)");
        Due.rule(x, 3, "r1(i=i)");
        return x;
    }

    // ---- promise 17

    private static void match() {
        Due.promise(17);
        Due.sentence("a SCORE (0 to 13 each)", () -> {
            PointOrShoot x = Due.by("a10(i=0)");
            Due.due("0 to 0", x.match(0, 0, 0), 1000000);
            Due.due("12 to 0", x.match(12, 0, 0), 1000000);
            Due.due("0 to 12", x.match(0, 12, 1), 1000000);
            for (int first = 0; first < 2; first++) {
                int one = first;
                noSuch("SCORE of 0", Due.outside(0, 13), -1, a -> x.match(a, 0, one));
                noSuch("SCORE of 0", Due.outside(0, 13), -1, a -> x.match(a, 13, one));
                noSuch("SCORE of 1", Due.outside(0, 13), -1, b -> x.match(0, b, one));
                noSuch("SCORE of 1", Due.outside(0, 13), -1, b -> x.match(13, b, one));
            }
        });
        Due.sentence("not both 13", () -> {
            PointOrShoot x = Due.by("a5(i=i)");
            Due.due("13 to 13", x.match(13, 13, 0), -1);
            Due.due("13 to 13", x.match(13, 13, 1), -1);
        });
        Due.sentence("a SIDE to play first: each", () -> {
            // Each END is won by who is first.
            PointOrShoot x = Due.by("a10(v=3)");
            Due.due("0 to 0, 0 first", x.match(0, 0, 0), 1000000);
            Due.due("0 to 0, 1 first", x.match(0, 0, 1), 0);
            PointOrShoot y = Due.by("a10(v=2)");
            Due.due("0 to 0, the other one", y.match(0, 0, 0), 0);
            Due.due("0 to 0, the other one", y.match(0, 0, 1), 1000000);
        });
        Due.sentence("who has 13 first: 13 of one", () -> {
            PointOrShoot x = Due.by("a5(i=i)");
            for (int other = 0; other < 13; other++) {
                Due.due("13 to " + other, x.match(13, other, 1), 1000000);
                Due.due(other + " to 13", x.match(other, 13, 0), 0);
            }
        });
        Due.sentence("NONE: no such SIDE to play first", () -> {
            PointOrShoot x = Due.by("a5(i=i)");
            noSuch("first", Due.outside(0, 1), -1, first -> x.match(0, 0, first));
            noSuch("first", Due.outside(0, 1), -1, first -> x.match(13, 0, first));
        });
        Due.sentence("13 first: more than 13 are enough", () -> {
            // SIDE 0 has all three POINTS in each END.
            PointOrShoot x = Due.by("a10(i=0)");
            for (int a = 10; a < 13; a++) {
                Due.due(a + " to 12", x.match(a, 12, 1), 1000000);
            }
            PointOrShoot y = Due.by("a10(i=1)");
            for (int b = 10; b < 13; b++) {
                Due.due("12 to " + b, y.match(12, b, 0), 0);
            }
        });
        Due.sentence("cut off at each SCORE", () -> {
            // SIDE 0 first: 1 POINT in 70 of 100, else SIDE 1 has 3; SIDE 1 first: it has 3.
            PointOrShoot x = Due.by("a7(i=0&v=3);c10(i=1)");
            int[] due = {700000, 490000, 343000, 240100, 168070, 117649, 82354, 57647, 40352, 28246, 19772, 13840, 9688};
            for (int a = 12; a >= 0; a--) {
                Due.due(a + " to 12", x.match(a, 12, 0), due[12 - a]);
            }
        });
        Due.sentence("cut off at each SCORE: both may win an END", () -> {
            // The first ball lies in ring 0, or else the next one, of the other side, in ring 1: 1 POINT each, 50 of 100.
            PointOrShoot x = Due.by("a5(u=3&v=3);b10(u=3&v=2)");
            Due.due("counts", x.likely(30000, 30000, 1, 1), Due.END / 2);
            Due.due("counts", x.likely(30000, 30000, 0, 1), Due.END / 2);
            for (int first = 0; first < 2; first++) {
                int[] of12 = {500000, 750000, 875000, 937500, 968750, 984375, 992187, 996093, 998046, 999023, 999511, 999755, 999877};
                int[] to12 = {500000, 250000, 125000, 62500, 31250, 15625, 7812, 3906, 1953, 976, 488, 244, 122};
                for (int i = 0; i < 13; i++) {
                    Due.due("12 to " + (12 - i), x.match(12, 12 - i, first), of12[i]);
                    Due.due(12 - i + " to 12", x.match(12 - i, 12, first), to12[i]);
                }
                Due.due("10 to 11", x.match(10, 11, first), 312500);
                Due.due("11 to 10", x.match(11, 10, first), 687500);
            }
            int[][] due = new int[14][14];
            for (int a = 13; a >= 0; a--) {
                for (int b = 13; b >= 0; b--) {
                    due[a][b] = a == 13 ? 1000000 : b == 13 ? 0 : (due[a + 1][b] + due[a][b + 1]) / 2;
                    Due.due(a + " to " + b, x.match(a, b, (a + b) % 2), a + b < 26 ? due[a][b] : -1);
                }
            }
        });
        Due.sentence("who has won an END plays first in the next one", () -> {
            PointOrShoot x = Due.by("a7(i=0&v=3);c10(i=1)");
            // Behind 3 POINTS of SIDE 1 it plays first, and has all that follow.
            Due.due("12 to 0", x.match(12, 0, 0), 700000);
            Due.due("12 to 0, 1 first", x.match(12, 0, 1), 0);
            PointOrShoot y = Due.by("a10(v=3&i=0);c10(v=3&i=1)");
            Due.due("0 wins when it is first", y.match(0, 12, 0), 1000000);
            Due.due("1 wins when it is first", y.match(12, 0, 1), 0);
        });
        Due.sentence("(ENDS without POINTS are played again)", () -> {
            PointOrShoot x = Due.by("a5(v=3)");
            Due.due("an END without POINTS", x.likely(30000, 30000, 1, 0), Due.END / 2);
            Due.due("0 first", x.match(0, 0, 0), 1000000);
            Due.due("1 first", x.match(0, 0, 1), 0);
            Due.due("0 first, 0 to 12", x.match(0, 12, 0), 1000000);
        });
        Due.sentence("through CHANCES of all counts but 0 together (if these are 0: 500000)", () -> {
            PointOrShoot x = Due.by("a10(i=i)");
            Due.due("0 to 0", x.match(0, 0, 0), 500000);
            Due.due("12 to 0", x.match(12, 0, 1), 500000);
            Due.due("no LAW", new PointOrShoot().match(3, 7, 0), 500000);
            // SIDE 0 first has a POINT, SIDE 1 first never.
            PointOrShoot y = Due.by("a10(v=3&i=0)");
            Due.due("0 first", y.match(0, 12, 0), 1000000);
            Due.due("1 first", y.match(12, 0, 1), 500000);
        });
        Due.sentence("(if these are 0: 500000): but not with 13", () -> {
            PointOrShoot x = new PointOrShoot();
            Due.due("13 to 12", x.match(13, 12, 0), 1000000);
            Due.due("12 to 13", x.match(12, 13, 0), 0);
        });
    }

    // ---- promise 18

    private static int nextX(int x) {
        return (int) ((25173L * x + 13849) % 65536);
    }

    /** The lowest seed by which the first THROW draws a number. */
    private static int seedFor(int number) {
        for (int seed = 0; seed < 65536; seed++) {
            if (nextX(seed) % 100 == number) {
                return seed;
            }
        }
        return -1;
    }

    private static void drawn() {
        Due.promise(18);
        Due.sentence("for each THROW X = (25173 X + 13849) modulo 65536", () -> {
            PointOrShoot x = Due.by("a2(i=i);b2(i=i);c2(i=i);h5(i=i);k5(i=i)");
            int[] seeds = {0, 1, 2, 39022, 65534, 65535, 32767, 32768};
            for (int seed : seeds) {
                x.seed(seed);
                x.drawn(-1, -1, 10000, 0, 1);
                Due.due("X behind " + seed, x.count(3), nextX(seed));
            }
            Due.due("X behind 65535, round about", nextX(65535), 54212);
            x.seed(1);
            x.drawn(-1, -1, 30000, 30000, 1);
            int due = 1;
            for (int i = 0; i < 6; i++) {
                due = nextX(due);
            }
            Due.due("X behind six THROWS", x.count(3), due);
        });
        Due.sentence("for each THROW: none in an END that is over", () -> {
            PointOrShoot x = Due.by(HALF);
            Due.due("POINTS", x.drawn(-1, -1, 1100, 10, 1), 2);
            Due.due("X", x.count(3), 1);
            Due.due("THROWS", x.log(0), 0);
        });
        Due.sentence("(X is THE SEED at first, 1): it goes on from END to END", () -> {
            PointOrShoot x = Due.by(HALF);
            x.drawn(-1, -1, 10000, 0, 1);
            x.drawn(-1, -1, 10000, 0, 1);
            Due.due("X", x.count(3), nextX(nextX(1)));
        });
        Due.sentence("POINTS (of 1 below 0)", () -> {
            PointOrShoot x = Due.by("a10(i=i)");
            Due.due("of 0", x.drawn(-1, -1, 30000, 0, 1), 3);
            Due.due("of 1", x.drawn(-1, -1, 0, 30000, 1), -3);
            Due.due("nobody", x.drawn(-1, -1, 10000, 10000, 1), 0);
            Due.due("of 1, over", x.drawn(-1, -1, 0, 3, 1), -3);
        });
        Due.sentence("from a state: LAST, too", () -> {
            // All balls lie alike: each in its turn.
            PointOrShoot x = Due.by("a10(i=i)");
            for (int last = 1; last >= 0; last--) {
                x.drawn(-1, -1, 30000, 30000, last);
                for (int i = 0; i < 6; i++) {
                    Due.due("SIDE of THROW " + i, x.log(20 + i), (1 - last + i) % 2);
                }
            }
            PointOrShoot y = Due.by("a10(l=1);b10(l=0)");
            y.drawn(-1, -1, 10001, 10, 1);
            Due.due("0 is not LAST", y.log(31), 101);
            y.drawn(-1, -1, 10001, 10, 0);
            Due.due("0 is LAST", y.log(31), 1001);
        });
        Due.sentence("it becomes the LOG, in place of the one before", () -> {
            PointOrShoot x = Due.by("a10(i=i)");
            x.drawn(-1, -1, 30000, 30000, 1);
            x.drawn(-1, -1, 10000, 0, 1);
            Due.due("THROWS", x.log(0), 1);
            Due.due("no second", x.log(11), -1);
            Due.due("CODE", x.log(31), 1000);
            Due.due("no third CODE", x.log(32), -1);
            x.drawn(-1, -1, 3, 0, 1);
            Due.due("no THROW", x.log(10), -1);
            Due.due("CODE", x.log(30), 3);
        });
        Due.sentence("-100: no such ones", () -> {
            PointOrShoot x = byRule(HALF, "r2(i=i)");
            noCodes(-100, (code, other) -> x.drawn(0, -1, code, other, 1));
            noSuch("LAST", Due.outside(0, 1), -100, last -> x.drawn(0, 0, 10000, 10000, last));
            noSuch("LAST, over", Due.outside(0, 1), -100, last -> x.drawn(0, 0, 0, 0, last));
            noSuch("RULE of 0", Due.outside(-1, 3), -100, j -> x.drawn(j, 0, 10000, 1000, 1));
            noSuch("RULE of 1", Due.outside(-1, 3), -100, k -> x.drawn(0, k, 10000, 1000, 1));
        });
        Due.sentence("-100: not told", () -> {
            PointOrShoot x = Due.by(HALF);
            Due.rule(x, 1, "r2(i=i)");
            for (int k = 0; k < 4; k++) {
                if (k != 1) {
                    Due.due("by " + k + ", 1", x.drawn(k, 1, 10000, 1000, 1), -100);
                    Due.due("by 1, " + k, x.drawn(1, k, 10000, 1000, 1), -100);
                    Due.due("by NONE, " + k + ", over", x.drawn(-1, k, 0, 0, 1), -100);
                }
            }
        });
        Due.sentence("refused: the LOG and X stay", () -> {
            PointOrShoot x = Due.by(HALF);
            x.drawn(-1, -1, 10000, 100, 1);
            int before = x.count(3);
            x.drawn(0, 0, 10000, 1000, 1);
            x.drawn(-1, -1, 40000, 1000, 1);
            x.drawn(-1, -1, 10000, 1000, 2);
            x.drawn(-2, -1, 10000, 1000, 1);
            Due.due("X", x.count(3), before);
            Due.due("THROWS", x.log(0), 1);
            Due.due("CODE", x.log(40), 100);
        });
    }

    /** The ring in which a ball comes to lie when a number is drawn. */
    private static void pointed(String law, int number, int code) {
        PointOrShoot x = Due.by(law);
        Due.yes("seed", x.seed(seedFor(number)));
        x.drawn(-1, -1, 10000, 0, 1);
        Due.due("CODE by " + law + " and " + number, x.log(31), code);
    }

    /** The codes behind a shot of side 0 at a ball in ring 1 when a number is drawn. */
    private static void shotBy(String law, int number, int code, int other) {
        PointOrShoot x = byRule(law, "r2(i=i)");
        Due.yes("seed", x.seed(seedFor(number)));
        x.drawn(0, 0, 10000, 110, 1);
        Due.due("THROW", x.log(10), 2);
        Due.due("CODE of 0 by " + law + " and " + number, x.log(31), code);
        Due.due("CODE of 1 by " + law + " and " + number, x.log(41), other);
    }

    private static void drawnEdges() {
        Due.promise(18);
        Due.sentence("X modulo 100: POINTING below 10 a RING 0", () -> {
            pointed("a3(i=i);b2(i=i);c4(i=i)", 0, 1000);
            pointed("a3(i=i);b2(i=i);c4(i=i)", 29, 1000);
            pointed("a3(i=i);b2(i=i);c4(i=i)", 30, 100);
            pointed("a10(i=i)", 99, 1000);
            pointed("b10(i=i)", 0, 100);
        });
        Due.sentence("then b, c likewise", () -> {
            pointed("a3(i=i);b2(i=i);c4(i=i)", 49, 100);
            pointed("a3(i=i);b2(i=i);c4(i=i)", 50, 10);
            pointed("a3(i=i);b2(i=i);c4(i=i)", 89, 10);
            pointed("a3(i=i);b2(i=i);c4(i=i)", 90, 1);
            pointed("a3(i=i);b2(i=i);c4(i=i)", 99, 1);
            pointed("a3(i=i);c4(i=i)", 30, 10);
            pointed("c10(i=i)", 99, 10);
            pointed("b4(i=i)", 39, 100);
            pointed("b4(i=i)", 40, 1);
            pointed("k9(i=i)", 0, 1);
        });
        Due.sentence("SHOOTING below h k it hits and stays", () -> {
            shotBy("h3(i=i);k7(i=i)", 0, 100, 10);
            shotBy("h3(i=i);k7(i=i)", 20, 100, 10);
            shotBy("h3(i=i);k7(i=i)", 21, 0, 10);
            shotBy("h10(i=i);k10(i=i)", 99, 100, 10);
            shotBy("h10(i=i)", 0, 0, 10);
        });
        Due.sentence("below 10 h it hits, else it misses", () -> {
            shotBy("h3(i=i);k7(i=i)", 29, 0, 10);
            shotBy("h3(i=i);k7(i=i)", 30, 0, 110);
            shotBy("h3(i=i);k7(i=i)", 99, 0, 110);
            shotBy("h10(i=i);k3(i=i)", 99, 0, 10);
            shotBy("k10(i=i)", 0, 0, 110);
            shotBy("h3(i=i);k10(i=i)", 29, 100, 10);
            shotBy("h3(i=i);k10(i=i)", 30, 0, 110);
        });
        Due.sentence("by RULES of both (or NONE: BEST)", () -> {
            PointOrShoot x = Due.by(HALF);
            Due.rule(x, 0, "r1(i=i)");
            Due.rule(x, 3, "r2(i=i)");
            x.drawn(0, 3, 10000, 1000, 1);
            Due.due("0 by RULE 0", x.log(10), 1);
            x.drawn(3, 0, 10000, 1000, 1);
            Due.due("0 by RULE 3", x.log(10), 2);
            x.drawn(0, 3, 1, 10000, 1);
            Due.due("1 by RULE 3", x.log(10), 2);
            x.drawn(3, 0, 1000, 10000, 1);
            Due.due("1 by RULE 0", x.log(10), 1);
            x.drawn(-1, 3, 10000, 1, 1);
            Due.due("0 by NONE", x.log(10), 1);
            x.drawn(-1, 0, 10000, 1000, 1);
            Due.due("0 by NONE", x.log(10), 2);
            x.drawn(3, -1, 1, 10000, 1);
            Due.due("1 by NONE", x.log(10), 1);
            x.drawn(0, -1, 1000, 10000, 1);
            Due.due("1 by NONE", x.log(10), 2);
        });
    }

    private static void drawnAgainstRules() {
        Due.promise(18);
        Due.sentence("(or NONE: BEST): against what the other one does", () -> {
            PointOrShoot x = byRule(RING_1_OR_TAKEN, "r1(i=i)");
            Due.due("BEST against BEST", x.drawn(-1, -1, 10000, 10010, 1), -1);
            Due.due("it shoots", x.log(10), 2);
            Due.due("BEST against a RULE", x.drawn(-1, 0, 10000, 10010, 1), 1);
            Due.due("it points", x.log(10), 1);
        });
    }

    // ---- promise 19

    private static void log() {
        Due.promise(19);
        Due.sentence("how many THROWS (NONE: there is none)", () -> {
            PointOrShoot x = Due.by(HALF);
            for (int what = 0; what <= 50; what++) {
                Due.due("log " + what + " without a LOG", x.log(what), -1);
            }
        });
        Due.sentence("the LOG of an END that was over: no THROW", () -> {
            PointOrShoot x = Due.by(HALF);
            x.drawn(-1, -1, 2100, 11, 1);
            for (int what = -1; what <= 50; what++) {
                int due = what == 0 ? 0 : what == 30 ? 2100 : what == 40 ? 11 : -1;
                Due.due("log " + what, x.log(what), due);
            }
        });
        Due.sentence("10 + i THROW i, 20 + i the SIDE, 30 + i, 40 + i CODES; NONE for others: of two THROWS", () -> {
            PointOrShoot x = Due.by("a10(i=i)");
            Due.rule(x, 0, "r2(i=i)");
            x.drawn(0, 0, 10000, 10010, 0);
            // 0 shoots (and never hits), then 1 can't shoot, so it points.
            int[] due = {10, 2, 11, 1, 20, 0, 21, 1, 30, 10000, 31, 0, 32, 0, 40, 10010, 41, 10010, 42, 1010};
            for (int what = 1; what <= 60; what++) {
                int want = -1;
                for (int i = 0; i < due.length; i += 2) {
                    want = due[i] == what ? due[i + 1] : want;
                }
                Due.due("log " + what, x.log(what), want);
            }
        });
        Due.sentence("(i to behind the last one): of six THROWS", () -> {
            PointOrShoot x = Due.by("a10(i=i)");
            x.drawn(-1, -1, 30000, 30000, 0);
            Due.due("THROWS", x.log(0), 6);
            for (int i = 0; i < 6; i++) {
                Due.due("THROW " + i, x.log(10 + i), 1);
                Due.due("SIDE " + i, x.log(20 + i) >= 0 ? 1 : 0, 1);
                Due.due("CODES ahead of " + i, (x.log(30 + i) + x.log(40 + i)) / 10000, 6 - i);
            }
            Due.due("CODES behind the last one", x.log(36), 3000);
            Due.due("CODES behind the last one", x.log(46), 3000);
            for (int what : new int[] {16, 17, 18, 19, 26, 27, 28, 29, 37, 38, 39, 47, 48, 49, 50}) {
                Due.due("log " + what, x.log(what), -1);
            }
        });
        Due.sentence("NONE for others", () -> {
            PointOrShoot x = Due.by(HALF);
            x.drawn(-1, -1, 10000, 0, 0);
            for (int what = 1; what < 10; what++) {
                Due.due("log " + what, x.log(what), -1);
            }
            noSuch("what", Due.outside(0, 50), -1, x::log);
        });
    }

    // ---- promise 20

    private static void wrong() {
        Due.promise(20);
        Due.sentence("-1: no LOG", () -> {
            PointOrShoot x = Due.by(HALF);
            for (int what = 0; what < 3; what++) {
                Due.due("what " + what, x.wrong(0, what), -1);
            }
            x.drawn(-1, -1, 10000, 0, 1);
            Due.law(x, HALF);
            for (int what = 0; what < 3; what++) {
                Due.due("what " + what + " behind a LOG that fell", x.wrong(0, what), -1);
            }
        });
        Due.sentence("-1: no THROW in it", () -> {
            PointOrShoot x = Due.by(HALF);
            x.drawn(-1, -1, 1000, 100, 1);
            for (int what = 0; what < 3; what++) {
                Due.due("what " + what, x.wrong(0, what), -1);
            }
        });
        Due.sentence("-1: no such ones: no such THROW", () -> {
            PointOrShoot x = wrongSecond();
            noSuch("THROW", Due.outside(0, 1), -1, i -> x.wrong(i, 0));
        });
        Due.sentence("-1: no such ones: no such what", () -> {
            PointOrShoot x = wrongSecond();
            noSuch("what", Due.outside(0, 2), -1, what -> x.wrong(0, what));
        });
        Due.sentence("the WORST THROW (1; i is not looked at), by how much (2)", () -> {
            PointOrShoot x = wrongSecond();
            for (int i : Due.outside(0, 1)) {
                Due.due("the WORST, i " + i, x.wrong(i, 1), 1);
                Due.due("by how much, i " + i, x.wrong(i, 2), 3000);
            }
        });
        Due.sentence("how much the SIDE loses by it (0 at least)", () -> {
            PointOrShoot x = wrongSecond();
            Due.due("the best one", x.wrong(0, 0), 0);
            PointOrShoot y = Due.by(HALF);
            y.drawn(-1, -1, 30000, 30000, 1);
            for (int i = 0; i < 6; i++) {
                Due.due("THROW " + i + " by BEST", y.wrong(i, 0), 0);
            }
            // At a ball in ring 3 to point leaves 50, to shoot -20.
            PointOrShoot z = byRule(HALF, "r2(i=i)");
            z.drawn(0, 0, 10000, 1, 1);
            Due.due("of SIDE 0", z.wrong(0, 0), 50 + 20);
            z.drawn(0, 0, 1, 10000, 1);
            Due.due("of SIDE 1", z.wrong(0, 0), 50 + 20);
        });
        Due.sentence("times 100 for each THROW ahead of it", () -> {
            PointOrShoot x = wrongSecond();
            Due.due("30 by the second THROW", x.wrong(1, 0), 3000);
        });
        Due.sentence("VALUE ahead of a THROW: by who was LAST then", () -> {
            // As above, but a side that is LAST never points to ring 0.
            PointOrShoot x = byRule("a5(i=0|l=0);h8(i=i)", "r1(i=i)");
            x.drawn(0, 0, 10000, 10000, 1);
            Due.due("the first", x.wrong(0, 0), 0);
            Due.due("the second", x.wrong(1, 0), 3000);
        });
        Due.sentence("VALUE ahead of a THROW: at FAR as it is", () -> {
            PointOrShoot x = byRule("a5(f=8);h8(f=8)", "r1(i=i)");
            x.drawn(0, 0, 10000, 10000, 1);
            x.toThrow(1, 0);
            Due.due("the second", x.wrong(1, 0), 3000);
            x.toThrow(0, 1);
            Due.due("the WORST", x.wrong(0, 2), 3000);
        });
        Due.sentence("the WORST: of like ones the first", () -> {
            // Who points in place of shooting loses a POINT for sure: 1 does at first, then 0.
            PointOrShoot x = byRule("b5(i=i);h10(i=i)", "r1(i=i)");
            x.drawn(0, 0, 11000, 11000, 0);
            Due.due("the first", x.wrong(0, 0), 10000);
            Due.due("the second", x.wrong(1, 0), 10000);
            Due.due("the WORST", x.wrong(0, 1), 0);
            Due.due("by how much", x.wrong(0, 2), 10000);
            PointOrShoot y = byRule("b5(i=i);h10(i=i)", "r1(i=i)");
            y.drawn(0, 0, 20001, 10001, 0);
            Due.due("the best one", y.wrong(0, 0), 0);
            Due.due("the second", y.wrong(1, 0), 500000);
            Due.due("the third", y.wrong(2, 0), 500000);
            Due.due("the WORST", y.wrong(0, 1), 1);
        });
        Due.sentence("the WORST: of like ones the first: none is wrong", () -> {
            PointOrShoot x = Due.by(HALF);
            x.drawn(-1, -1, 30000, 30000, 1);
            Due.due("the WORST", x.wrong(0, 1), 0);
            Due.due("by how much", x.wrong(0, 2), 0);
        });
    }

    /** Side 0 points to ring 0 (22 is below 50), as is best; side 1 points, which leaves 50 in place of 20. */
    private static PointOrShoot wrongSecond() {
        PointOrShoot x = byRule(HALF, "r1(i=i)");
        x.drawn(0, 0, 10000, 10000, 1);
        Due.due("THROWS", x.log(0), 2);
        return x;
    }
}
