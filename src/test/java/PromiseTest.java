/**
 * Each promise of the document by what was reckoned by hand: ordinary inputs, the edges that it names, wrong
 * inputs. A method a promise; promises that need a text to be seen feed one.
 */
public final class PromiseTest {
    private static final long NO_VALUE = Due.NO_VALUE;
    private static final long END = Due.END;
    private static final String ALL_FIVE = "a5(i=i);b3(i=i);c1(i=i);h5(i=i);k2(i=i)";
    private static final String HALF = "a5(i=i);h8(i=i)";
    /** Only the first ball of an end comes to lie in ring 0; all others in ring 3. */
    private static final String FIRST_WINS = "a10(v=3)";
    /** Side 0 points to ring 1 or both are gone; side 1 points to ring 3 or takes the place of a ball. */
    private static final String RING_1_OR_TAKEN = "b10(i=0);h10(i=i);k10(i=1)";
    private static final String FLAT = "h0/h0/h0/h0/h0/h0/h0/h0";

    public static void main(String[] args) {
        for (int promise = 1; promise <= 35; promise++) {
            Due.promise(promise);
            test(promise);
        }
        byFar();
        Due.end("35 promises hold");
    }

    private static void test(int number) {
        switch (number) {
            case 1: newObject(); break;
            case 2: far(); break;
            case 3: feeding(); break;
            case 4: law(); lawFaults(); lawReckoned(); break;
            case 5: rule(); break;
            case 6: ground(); break;
            case 7: turn(); break;
            case 8: points(); break;
            case 9: chance(); break;
            case 10: best(); break;
            case 11: likely(); break;
            case 12: goFor(); break;
            case 13: toThrow(); break;
            case 14: byRules(); break;
            case 15: lastBall(); break;
            case 16: game(); break;
            case 17: match(); break;
            case 18: drawn(); break;
            case 19: log(); break;
            case 20: wrongThrows(); break;
            case 21: shot(); break;
            case 22: book(); break;
            case 23: fits(); break;
            case 24: roll(); break;
            case 25: lay(); break;
            case 26: ball(); break;
            case 27: pig(); break;
            case 28: gone(); break;
            case 29: measured(); break;
            case 30: toShoot(); break;
            case 31: seed(); break;
            case 32: keep(); break;
            case 33: undo(); break;
            case 34: check(); break;
            default: count();
        }
    }

    /** What hangs on FAR, asked at once when FAR is another, and behind a call that tries all of them. */
    private static void byFar() {
        Due.promise(2);
        PointOrShoot x = Due.by("a10(f=6);b10(f=7);h10(f=9);k10(f=9)");
        Due.rule(x, 0, "r2(f=9)");
        x.far(6);
        Due.due("points at 6", x.drawn(-1, -1, 10000, 100, 1), 1);
        x.far(9);
        Due.due("it takes the place at 9", x.drawn(-1, -1, 10000, 100, 1), 1);
        Due.due("it shoots", x.log(10), 2);
        x.toThrow(0, 0);
        Due.due("wrong behind all FARS", x.wrong(0, 0), 0);
        x.far(6);
        x.drawn(0, 0, 10000, 1000, 1);
        Due.due("it points at 6", x.log(10), 1);
        x.far(9);
        Due.due("likely", x.likely(10000, 100, 1, 1), 100);
        x.far(7);
        Due.due("likely", x.likely(10000, 100, 1, 1), 0);
        x.far(9);
        Due.due("by", x.by(0, 0, 10000, 100, 1, 0), 100);
        x.far(7);
        Due.due("by", x.by(0, 0, 10000, 100, 1, 0), 0);
        x.far(9);
        Due.due("goFor", x.goFor(10000, 100, 1, 1, 0), 100);
        x.far(7);
        Due.due("goFor", x.goFor(10000, 100, 1, 1, 0), 0);
        x.far(9);
        Due.due("best", x.best(10000, 100, 1, 0), 100);
        x.far(7);
        Due.due("best", x.best(10000, 100, 1, 0), 0);
        x.far(6);
        x.drawn(-1, -1, 10000, 1000, 1);
        x.far(9);
        x.drawn(-1, 0, 10000, 100, 1);
        x.toThrow(1, 0);
        Due.due("the WORST behind all FARS", x.wrong(0, 2), 0);
        PointOrShoot y = Due.by("a10(i=0&f=7);h10(i=1)");
        Due.rule(y, 2, "r1(i=i)");
        y.far(7);
        Due.due("game", y.game(0), 3 * END);
        y.far(8);
        Due.due("game", y.game(0), 0);
        y.toThrow(0, 0);
        y.far(7);
        Due.due("game", y.game(2), 3 * END);
        PointOrShoot z = Due.by("a2+f-6(i=i);h8(i=i)");
        Due.rule(z, 1, "r1(i=i)");
        z.far(6);
        z.drawn(1, 1, 1000, 10000, 0);
        // At 6 to point leaves 80 hundredths, to shoot 20.
        Due.due("wrong at 6", z.wrong(0, 0), 60);
        z.toThrow(0, 0);
        Due.due("wrong at 6 behind all FARS", z.wrong(0, 0), 60);
        z.toThrow(1, 0);
        Due.due("the WORST at 6 behind all FARS", z.wrong(0, 2), 60);
    }

    private static void newObject() {
        PointOrShoot x = new PointOrShoot();
        Due.due("FAR", x.count(0), 8);
        Due.due("CLAUSES", x.count(1), 0);
        Due.due("tape", x.count(2), 0);
        Due.due("X", x.count(3), 1);
        Due.due("balls", x.count(4), 0);
        Due.due("pig", x.count(5), 5050);
        for (int k = 0; k < 4; k++) {
            Due.due("RULE " + k, x.count(10 + k), 0);
        }
        for (int spot = 0; spot < 64; spot++) {
            Due.due("height", x.count(100 + spot), 0);
        }
        Due.due("LOG", x.log(0), -1);
        Due.due("shots", x.book(0), 0);
        Due.no("undo", x.undo());
        Due.due("pointing without a LAW", x.chance(30000, 30000, 0, 1, 3), 100);
        Due.due("shooting without a LAW", x.chance(30000, 100, 0, 2, 6), 100);
        Due.due("NONE", PointOrShoot.NONE, -1);
    }

    private static void far() {
        PointOrShoot x = Due.by("a5(f=6);a7(f=10);a1(i=i)");
        Due.no("5", x.far(5));
        Due.no("11", x.far(11));
        Due.no("-6", x.far(-6));
        Due.due("FAR", x.count(0), 8);
        Due.due("chance at 8", x.chance(30000, 30000, 0, 1, 0), 10);
        x.drawn(-1, -1, 10000, 0, 0);
        Due.no("5", x.far(5));
        Due.due("LOG stays if refused", x.log(0), 1);
        Due.yes("6", x.far(6));
        Due.due("LOG falls", x.log(0), -1);
        Due.due("chance at 6", x.chance(30000, 30000, 0, 1, 0), 50);
        Due.yes("10", x.far(10));
        Due.due("chance at 10", x.chance(30000, 30000, 0, 1, 0), 70);
        x.drawn(-1, -1, 10000, 0, 0);
        Due.yes("the same", x.far(10));
        Due.due("LOG falls for the same, too", x.log(0), -1);
    }

    private static void feeding() {
        PointOrShoot x = new PointOrShoot();
        for (int i = 1; i <= 13; i++) {
            Due.due("feed", x.feed(i, -1, 3, 4, 5), 20 * i);
        }
        Due.due("feed beyond 260", x.feed(1, 2, 3, 4, 5), -1);
        Due.due("tape", x.count(2), 260);
        Due.due("check", x.check(0), -1);
        // "a5(i", "=i);", "b3(i", "=i)a": the highest byte first.
        Due.due("feed", x.feed(0x61352869, 0x3d69293b, 0x62332869, 0x3d692961, 0), 20);
        Due.due("law", x.law(15), 2);
        x.feed(0, 0, 0, 0, 0);
        Due.due("check", x.check(5), -1);
        x.feed(0, 0, 0, 0, 0);
        Due.due("behind the tape", x.feed(0, 0, 1, 0, 0), 40);
        Due.due("check 8", x.check(8), 7);
    }

    private static void law() {
        PointOrShoot x = Due.by("a5(i=i)");
        x.drawn(-1, -1, 10000, 0, 0);
        Due.feed(x, ALL_FIVE);
        Due.due("n 0", x.law(0), -1);
        Due.due("n 241", x.law(241), -1);
        Due.due("n -1", x.law(-1), -1);
        Due.due("not so many", x.law(41), -1);
        Due.due("tape stays", x.count(2), 40);
        Due.due("the one before stays", x.count(1), 1);
        Due.due("LOG stays", x.log(0), 1);
        Due.due("law", x.law(39), 5);
        Due.due("tape is empty", x.count(2), 0);
        Due.due("CLAUSES", x.count(1), 5);
        Due.due("LOG falls", x.log(0), -1);
        x.drawn(-1, -1, 10000, 0, 0);
        Due.due("a FAULT", Due.law(x, "a1(i=i);"), -1008);
        Due.due("tape is empty", x.count(2), 0);
        Due.due("the one before stays", x.count(1), 5);
        Due.due("it counts", x.chance(30000, 30000, 0, 1, 1), 30);
        Due.due("LOG stays", x.log(0), 1);
        StringBuilder most = new StringBuilder("a10");
        while (most.length() < 235) {
            most.append("+1");
        }
        most.append("(i=i)");
        Due.due("240 bytes", Due.law(x, most.toString()), 1);
        Due.due("bound", x.chance(30000, 30000, 0, 1, 0), 100);
        Due.due("241 bytes fed", Due.law(x, "a1" + most.substring(2) + "+"), -1);
        Due.due("the last byte, too", Due.law(x, most.substring(0, 239)), -1239);
        Due.due("second law in place of the first", Due.law(x, "b4(i=i)"), 1);
        Due.due("a", x.chance(30000, 30000, 0, 1, 0), 0);
        Due.due("b", x.chance(30000, 30000, 0, 1, 1), 40);
    }

    private static void fault(String text, int answer) {
        PointOrShoot x = new PointOrShoot();
        Due.due(text, Due.law(x, text), answer);
        Due.due("no LAW", x.count(1), answer > 0 ? answer : 0);
    }

    private static void lawFaults() {
        fault("r1(i=i)", -1000);
        fault("A1(i=i)", -1000);
        fault(" a1(i=i)", -1000);
        fault("a", -1001);
        fault("a(i=i)", -1001);
        fault("a-1(i=i)", -1001);
        fault("a1", -1002);
        fault("a1i=i)", -1002);
        fault("a1 (i=i)", -1002);
        fault("a1()", -1003);
        fault("a1(i)", -1004);
        fault("a1(i=", -1005);
        fault("a1(i=i", -1006);
        fault("a1(i=i=i)", -1006);
        fault("a1(i=i)b", -1007);
        fault("a1(i=i);", -1008);
        fault("a1(i=i);;", -1008);
        fault("a1(i=i&)", -1007);
        fault("a1(i=i|", -1007);
        fault("a1(!i)", -1005);
        fault("a1(((i=i))", -1010);
        fault("a1((i)=i)", -1005);
        fault("a[1(i=i)", -1003);
        fault("a1](i=i)", -1002);
        fault("a[](i=i)", -1002);
        fault("a1(x=i)", -1003);
        fault("a1(a=i)", -1003);
        fault("a1(r=i)", -1003);
        fault("a1+(i=i)", -1003);
        fault("a1**1(i=i)", -1003);
        fault("a\u00e9(i=i)", -1001);
        fault("a99999(i=i)", 1);
        fault("a123456(i=i)", -2006);
        fault("a1(i=000000)", -2010);
        fault("a1(1234567=i)", -2008);
        fault("a[[[[[[1]]]]]](((((((i=i)))))))", -5020);
        fault("a[[[[[[1]]]]]]((((((i=i))))))", 1);
        fault("a[[[[[[[1]]]]]]](i=i)", -5007);
        fault("a1(!!!!!i=i)", 1);
        fault("a1(!!!!!!i=i)", -5008);
        fault("a1(!!!!![i]=i)", -5008);
        fault("a1(!!!!!(i=i))", -5008);
        fault("a1([[[[[i]]]]]=[[[[[i]]]]])", 1);
        fault("a1([[[[[[i]]]]]]=i)", -5008);
        // A ! is open till its PIECE ends: those that stand beside one another are never too many.
        fault("a1(!i=i&!i=i|!i=i&!i=i|!i=i&!i=i|!i=i)", 1);
        fault("a1(!(!i=i)&!(!([i]=i)))", 1);
        fault("a1(!(!i=i)&!(!([[i]]=i)))", -5016);
        fault("a1(i=i)(", -1007);
        StringBuilder text = new StringBuilder();
        for (int i = 0; i < 16; i++) {
            text.append(i == 0 ? "" : ";").append("k1(i=i)");
        }
        fault(text.toString(), 16);
        fault(text + ";", -1128);
        fault(text + ";k", -4128);
        fault(text + ";r", -1128);
        fault(text + ";k1(i=i)", -4128);
        fault(text.substring(0, 120) + "x", -1120);
    }

    /** A number in hundredths by a LAW for ring 0, side 1 to play with 3 in hand, side 0 with 2 and one in ring 1. */
    private static void reckoned(String clauses, int tenths) {
        PointOrShoot x = Due.by(clauses);
        Due.due(clauses, x.chance(20100, 30000, 0, 1, 0), 10 * tenths);
    }

    private static void lawReckoned() {
        reckoned("b1(i=i)", 0);
        reckoned("a3(i=0);a4(i=1);a5(i=1)", 4);
        reckoned("a3(i=0)", 0);
        reckoned("a11(i=i)", 10);
        reckoned("a1-3(i=i)", 0);
        reckoned("ai(i=i)", 1);
        reckoned("au(i=i)", 3);
        reckoned("av(i=i)", 2);
        reckoned("am(i=i)", 4);
        reckoned("an(i=i)", 1);
        reckoned("af(i=i)", 8);
        reckoned("al(i=i)", 0);
        reckoned("as(i=i)", 0);
        reckoned("ao(i=i)", 1);
        reckoned("a2+3*2(i=i)", 8);
        reckoned("a[2+3]*2(i=i)", 10);
        reckoned("a9-2-3(i=i)", 4);
        reckoned("a9-[2-3](i=i)", 10);
        reckoned("a40/4/2(i=i)", 5);
        reckoned("a40%9*2(i=i)", 8);
        reckoned("a7/2(i=i)", 3);
        reckoned("a5+[1-8]/2(i=i)", 2);
        reckoned("a5+[1-8]%4(i=i)", 2);
        reckoned("a7(1<2)", 7);
        reckoned("a7(2<2)", 0);
        reckoned("a7(2>1)", 7);
        reckoned("a7(2>2)", 0);
        reckoned("a7(2=2)", 7);
        reckoned("a7(!2=2)", 0);
        reckoned("a7(!!2=2)", 7);
        reckoned("a7(!1=2&1=2)", 0);
        reckoned("a7(!(1=2&1=2))", 7);
        reckoned("a7(1=1|1=2&1=2)", 7);
        reckoned("a7((1=1|1=2)&1=2)", 0);
        reckoned("a7(1=2|1=2|1=1)", 7);
        reckoned("a7(1=1&1=1&1=2)", 0);
        // 32 bits, round about: 46341 times itself is less than 0, 65536 times itself is 0.
        reckoned("a7(46341*46341<0)", 7);
        reckoned("a7(65536*65536=0)", 7);
        reckoned("a7([0-32768*65535-32768]/[0-1]<0)", 7);
        reckoned("a7([0-32768*65535-32768]%[0-1]=0)", 7);
        // What is divided by 0.
        reckoned("a1/0(i=i);a5(i=i)", 0);
        reckoned("a5%0(i=i);a5(i=i)", 0);
        reckoned("a5+0*[1/0](i=i)", 0);
        reckoned("a1(1/0=1);a5(i=i)", 5);
        reckoned("a1(1%0=0);a5(i=i)", 5);
        reckoned("a1(!1/0=1);a5(i=i)", 5);
        reckoned("a1(!(1/0=1));a5(i=i)", 5);
        reckoned("a1((1/0=1)|1=1);a5(i=i)", 5);
        reckoned("a1(1=1|1/0=1);a5(i=i)", 1);
        reckoned("a1(1=2&1/0=1|1=1);a5(i=i)", 1);
        reckoned("a1(1=1&1/0=1|1=1);a5(i=i)", 5);
        reckoned("a1(!(1=2&1/0=1));a5(i=i)", 1);
        reckoned("a1((1=1|1/0=1)&1=1);a5(i=i)", 1);
        reckoned("a1(1=2|1/0=1);a5(i=i)", 5);
        reckoned("a1(1/[1-1]>0|i=i);a5(i=i)", 5);
    }

    private static void rule() {
        PointOrShoot x = Due.by(HALF);
        x.drawn(-1, -1, 10000, 0, 0);
        Due.feed(x, "r2(i=i)");
        Due.due("k 4", x.rule(4, 7), -1);
        Due.due("k -1", x.rule(-1, 7), -1);
        Due.due("n 0", x.rule(0, 0), -1);
        Due.due("n 21", x.rule(0, 21), -1);
        Due.due("n 241", x.rule(0, 241), -1);
        Due.due("tape stays", x.count(2), 20);
        Due.due("not told", x.count(10), 0);
        Due.due("rule", x.rule(3, 7), 1);
        Due.due("tape is empty", x.count(2), 0);
        Due.due("LOG stays", x.log(0), 1);
        Due.due("CLAUSES", x.count(13), 1);
        Due.due("a FAULT", Due.rule(x, 3, "a2(i=i)"), -1000);
        Due.due("tape is empty", x.count(2), 0);
        Due.due("the one before stays", x.count(13), 1);
        Due.due("a FAULT", Due.rule(x, 2, "r2(i=i);r"), -1009);
        Due.due("not told", x.count(12), 0);
        Due.due("it counts", x.by(3, 3, 10000, 1000, 1, 1), 2);
        Due.due("second RULE", Due.rule(x, 3, "r1(i=i);r2(i=i)"), 2);
        Due.due("in its place: the first that holds", x.by(3, 3, 10000, 1000, 1, 1), 1);
        Due.rule(x, 0, "r2(i=1)");
        Due.due("none that holds: it POINTS", x.by(0, 0, 10000, 1000, 1, 1), 1);
        Due.due("one that holds", x.by(0, 0, 1000, 10000, 0, 1), 2);
        Due.rule(x, 0, "r3(i=i);r2(i=i)");
        Due.due("another number: it POINTS", x.by(0, 0, 10000, 1000, 1, 1), 1);
        Due.rule(x, 0, "r12-5*2(f=8)");
        Due.due("a number that is reckoned", x.by(0, 0, 10000, 1000, 1, 1), 2);
        Due.rule(x, 0, "r2/0(i=i);r2(i=i)");
        Due.due("a number that is REFUSED: it POINTS", x.by(0, 0, 10000, 1000, 1, 1), 1);
        StringBuilder text = new StringBuilder("r1(i=i)");
        for (int i = 1; i < 17; i++) {
            text.append(";r1(i=i)");
        }
        Due.due("a 17th CLAUSE", Due.rule(x, 1, text.toString()), -4128);
        Due.due("16 CLAUSES", Due.rule(x, 1, text.substring(0, 127)), 16);
    }

    private static void badGround(String text, int answer) {
        PointOrShoot x = new PointOrShoot();
        Due.ground(x, "h1/h1/h1/h1/h1/h1/h1/h1");
        Due.due("ground " + text, Due.ground(x, text), answer);
        Due.due("tape is empty", x.count(2), 0);
        Due.due("the one before stays", x.count(163), 1);
    }

    private static void ground() {
        PointOrShoot x = Due.by(HALF);
        x.drawn(-1, -1, 10000, 0, 0);
        Due.due("ground", Due.ground(x, "01234567/h8/a0b1c2b3/h0/d4d5/h0/h0/g61"), 8);
        int[] first = {0, 1, 2, 3, 4, 5, 6, 7, 8};
        for (int i = 0; i < 9; i++) {
            Due.due("height " + i, x.count(100 + i), first[i]);
        }
        int[] third = {0, 1, 1, 2, 2, 2, 3, 3};
        for (int i = 0; i < 8; i++) {
            Due.due("height of y 2", x.count(116 + i), third[i]);
        }
        Due.due("height", x.count(132 + 3), 4);
        Due.due("height", x.count(132 + 4), 5);
        Due.due("height", x.count(162), 6);
        Due.due("height", x.count(163), 1);
        Due.due("LOG stays", x.log(0), 1);
        Due.due("flat", Due.ground(x, FLAT), 0);
        Due.feed(x, FLAT);
        Due.due("n 0", x.ground(0), -1);
        Due.due("n 121", x.ground(121), -1);
        Due.due("not so many", x.ground(41), -1);
        Due.due("tape stays", x.count(2), 40);
        Due.due("n 23", x.ground(23), 0);
        Due.due("tape is empty", x.count(2), 0);
        String rows = "h0/h0/h0/h0/h0/h0/";
        Due.due("a1a1..", Due.ground(x, rows + "a1a1a1a1a1a1a1a1/h0"), 1);
        badGround("x", -1000);
        badGround("i0", -1000);
        badGround("/h0", -1000);
        badGround("h", -1001);
        badGround("ha", -1001);
        badGround("h/", -1001);
        badGround("hh0", -1001);
        badGround("h0", -1002);
        badGround("h0;", -1002);
        badGround("g0/", -1002);
        badGround("0000000/", -1007);
        badGround("000", -1003);
        badGround("h00", -6002);
        badGround("h0h", -6002);
        badGround("h0a", -6002);
        badGround("0h", -6001);
        badGround("g0b0", -6002);
        badGround("g0b", -6002);
        badGround("000000000", -6008);
        badGround(rows, -1018);
        badGround(rows + "h0", -1020);
        badGround(rows + "h0/", -1021);
        badGround(rows + "h0/h0/", -1023);
        badGround(rows + "h0/h00", -6023);
        badGround(rows + "h0/h0h", -6023);
        badGround(rows + "h0/h0i", -1023);
        StringBuilder most = new StringBuilder();
        for (int i = 0; i < 120; i++) {
            most.append("0");
        }
        badGround(most.toString(), -6008);
        Due.feed(x, most + "0");
        Due.due("121 bytes", x.ground(121), -1);
        Due.due("tape stays", x.count(2), 140);
    }

    private static void turn() {
        PointOrShoot x = new PointOrShoot();
        Due.due("the higher BEST RING", x.turn(11000, 20100, 1), 1);
        Due.due("the higher BEST RING", x.turn(10100, 21000, 0), 0);
        Due.due("none lies", x.turn(20000, 20001, 0), 0);
        Due.due("none lies", x.turn(20001, 20000, 1), 1);
        Due.due("it has none in hand", x.turn(100, 21000, 1), 1);
        Due.due("it has none in hand", x.turn(21000, 100, 0), 0);
        Due.due("alike, not LAST", x.turn(10100, 10100, 0), 1);
        Due.due("alike, not LAST", x.turn(10100, 10101, 1), 0);
        Due.due("alike, it has none", x.turn(10100, 100, 0), 0);
        Due.due("alike, it has none", x.turn(100, 10100, 1), 1);
        Due.due("over", x.turn(1000, 2000, 0), 2);
        Due.due("over", x.turn(0, 0, 1), 2);
        Due.due("begin", x.turn(30000, 30000, 0), 1);
        int[] bad = {-1, 4, 13, 40000, 30001, 4000, 400, 40, 50000, 100000, Integer.MIN_VALUE, Integer.MAX_VALUE};
        for (int code : bad) {
            Due.due("CODE " + code, x.turn(code, 30000, 0), -1);
            Due.due("CODE " + code, x.turn(30000, code, 0), -1);
        }
        for (int code = 0; code <= 40000; code++) {
            int inAll = code / 10000 + code / 1000 % 10 + code / 100 % 10 + code / 10 % 10 + code % 10;
            Due.due("CODE " + code, x.turn(code, 30000, 0) >= 0 ? 1 : 0, inAll <= 3 ? 1 : 0);
        }
        Due.due("SIDE 2", x.turn(30000, 30000, 2), -1);
        Due.due("SIDE -1", x.turn(30000, 30000, -1), -1);
    }

    private static void points() {
        PointOrShoot x = new PointOrShoot();
        Due.due("one", x.points(1000, 100), 1);
        Due.due("two", x.points(2000, 100), 2);
        Due.due("three in two rings", x.points(1110, 1), 3);
        Due.due("not those as far", x.points(1110, 10), 2);
        Due.due("not those behind", x.points(1110, 100), 1);
        Due.due("none lies", x.points(111, 0), 3);
        Due.due("of 1", x.points(100, 2100), -2);
        Due.due("of 1", x.points(0, 3), -3);
        Due.due("alike", x.points(1200, 1002), 0);
        Due.due("nobody", x.points(0, 0), 0);
        Due.due("with some in hand", x.points(20100, 20010), 1);
        Due.due("CODE", x.points(4, 0), -100);
        Due.due("CODE", x.points(0, -1), -100);
        Due.due("CODE", x.points(0, 31000), -100);
    }

    private static void parts(PointOrShoot x, int[] pointing, int[] shooting) {
        for (int i = 0; i < 4; i++) {
            Due.due("RING " + i, x.chance(20100, 30000, 0, 1, i), pointing[i]);
        }
        for (int i = 0; i < 3; i++) {
            Due.due("shot " + (4 + i), x.chance(20100, 30000, 0, 2, 4 + i), shooting[i]);
        }
    }

    private static void chance() {
        parts(Due.by(ALL_FIVE), new int[] {50, 30, 10, 10}, new int[] {10, 40, 50});
        parts(Due.by("a7(i=i);b6(i=i);c5(i=i);h10(i=i);k10(i=i)"), new int[] {70, 30, 0, 0}, new int[] {100, 0, 0});
        parts(Due.by("a1(i=i);b2(i=i);c9(i=i);h7(i=i);k3(i=i)"), new int[] {10, 20, 70, 0}, new int[] {21, 49, 30});
        parts(Due.by("c9(i=i);k9(i=i)"), new int[] {0, 0, 90, 10}, new int[] {0, 0, 100});
        parts(Due.by("h7(i=i)"), new int[] {0, 0, 0, 100}, new int[] {0, 70, 30});
        PointOrShoot x = Due.by(ALL_FIVE);
        Due.due("over", x.chance(100, 100, 0, 1, 0), -1);
        Due.due("none lies", x.chance(30000, 30000, 0, 2, 4), -1);
        Due.due("only its own lies", x.chance(20100, 30000, 0, 2, 4), 10);
        Due.due("only its own lies", x.chance(20100, 0, 0, 2, 4), -1);
        Due.due("what", x.chance(20100, 30000, 0, 1, 4), -1);
        Due.due("what", x.chance(20100, 30000, 0, 1, -1), -1);
        Due.due("what", x.chance(20100, 30000, 0, 2, 3), -1);
        Due.due("what", x.chance(20100, 30000, 0, 2, 7), -1);
        Due.due("throwing", x.chance(20100, 30000, 0, 0, 0), -1);
        Due.due("throwing", x.chance(20100, 30000, 0, 3, 4), -1);
        Due.due("CODE", x.chance(40000, 30000, 0, 1, 0), -1);
        Due.due("CODE", x.chance(30000, 4, 0, 1, 0), -1);
        Due.due("SIDE", x.chance(30000, 30000, 2, 1, 0), -1);
        // The letters as side 0 sees them, with LAST 0.
        PointOrShoot y = Due.by("a1(i=0&u=1&v=2&m=3&n=1&l=1&s=2&o=1)");
        Due.due("letters", y.chance(10002, 20100, 0, 1, 0), 10);
        Due.due("not LAST", y.chance(10002, 20100, 1, 1, 0), 0);
    }

    private static void best() {
        PointOrShoot x = Due.by(HALF);
        Due.due("over", x.best(2000, 100, 0, 0), 2);
        Due.due("over", x.best(2000, 100, 0, 1), -1);
        // One ball: to point leaves 50 hundredths, to shoot 20.
        Due.due("side 1 shoots", x.best(1000, 10000, 0, 0), 20);
        Due.due("side 1 shoots", x.best(1000, 10000, 0, 1), 2);
        Due.due("side 0 shoots", x.best(10000, 1000, 1, 0), -20);
        Due.due("side 0 shoots", x.best(10000, 1000, 1, 1), 2);
        Due.due("side 1 points", x.best(1, 10000, 0, 0), -50);
        Due.due("side 1 points", x.best(1, 10000, 0, 1), 1);
        // Two: 50 of 20 and 50 of -50, times 100.
        Due.due("side 0 begins", x.best(10000, 10000, 1, 0), -1500);
        Due.due("side 0 begins", x.best(10000, 10000, 1, 1), 1);
        Due.due("side 1 begins", x.best(10000, 10000, 0, 0), 1500);
        // A ball that hits and stays takes the place.
        PointOrShoot y = Due.by("h10(i=i);k10(i=i)");
        Due.due("it stays", y.best(10000, 100, 1, 0), 100);
        Due.due("it stays", y.best(10000, 110, 1, 0), 100);
        Due.due("a second one ahead", y.best(10000, 200, 1, 0), 0);
        PointOrShoot z = Due.by("a5(i=i);h5(i=i)");
        Due.due("alike: THROW 1", z.best(10000, 1000, 1, 1), 1);
        Due.due("alike", z.best(10000, 1000, 1, 0), -50);
        PointOrShoot w = Due.by("a10(i=0)");
        Due.due("six balls", w.best(30000, 30000, 1, 0), 3 * END);
        Due.due("what", x.best(30000, 30000, 0, 2), NO_VALUE);
        Due.due("what", x.best(30000, 30000, 0, -1), NO_VALUE);
        Due.due("CODE", x.best(4, 30000, 0, 0), NO_VALUE);
        Due.due("CODE", x.best(30000, 40000, 0, 1), NO_VALUE);
        Due.due("SIDE", x.best(30000, 30000, 2, 0), NO_VALUE);
        x.far(6);
        PointOrShoot v = Due.by("a5(f=8)");
        Due.due("at 8", v.best(10000, 1, 1, 0), 50);
        v.far(9);
        Due.due("at 9", v.best(10000, 1, 1, 0), 0);
        Due.law(v, "a7(f=9)");
        Due.due("by another LAW", v.best(10000, 1, 1, 0), 70);
    }

    private static void likely() {
        PointOrShoot x = Due.by(HALF);
        long[] counts = {0, 0, 2500, 6500, 1000, 0, 0};
        for (int c = -3; c <= 3; c++) {
            Due.due("count " + c, x.likely(10000, 10000, 1, c), counts[c + 3]);
        }
        Due.due("of one ball", x.likely(1000, 10000, 0, 1), 20);
        Due.due("of one ball", x.likely(1000, 10000, 0, 0), 80);
        Due.due("over", x.likely(1000, 0, 0, 1), 1);
        Due.due("over", x.likely(1000, 0, 0, 0), 0);
        PointOrShoot w = Due.by("a10(i=0)");
        Due.due("six balls", w.likely(30000, 30000, 1, 3), END);
        Due.due("six balls", w.likely(30000, 30000, 0, -3), 0);
        Due.due("count", x.likely(10000, 10000, 1, 4), -1);
        Due.due("count", x.likely(10000, 10000, 1, -4), -1);
        Due.due("CODE", x.likely(4, 10000, 1, 0), -1);
        Due.due("CODE", x.likely(10000, 4, 1, 0), -1);
        Due.due("SIDE", x.likely(10000, 10000, -1, 0), -1);
    }

    private static void goFor() {
        PointOrShoot x = Due.by(HALF);
        // Side 1 with one ball against one in ring 0: for less than 1 to point is 50, to shoot 80.
        Due.due("1", x.goFor(1000, 10000, 0, 1, 0), 20);
        Due.due("1", x.goFor(1000, 10000, 0, 1, 1), 2);
        Due.due("0: both alike", x.goFor(1000, 10000, 0, 0, 0), 100);
        Due.due("0: both alike", x.goFor(1000, 10000, 0, 0, 1), 1);
        Due.due("-3", x.goFor(1000, 10000, 0, -3, 0), 100);
        Due.due("3", x.goFor(1000, 10000, 0, 3, 0), 0);
        // Against one in ring 3: at least 0 by pointing 50, by shooting 100.
        Due.due("0", x.goFor(1, 10000, 0, 0, 0), 50);
        Due.due("0", x.goFor(1, 10000, 0, 0, 1), 1);
        Due.due("1", x.goFor(1, 10000, 0, 1, 0), 0);
        Due.due("side 0", x.goFor(10000, 1000, 1, 0, 0), 80);
        Due.due("side 0", x.goFor(10000, 1000, 1, 0, 1), 2);
        Due.due("side 0", x.goFor(10000, 1000, 1, 1, 0), 0);
        Due.due("side 0", x.goFor(10000, 1000, 1, 1, 1), 1);
        Due.due("two balls", x.goFor(10000, 10000, 1, 0, 0), 7500);
        Due.due("two balls", x.goFor(10000, 10000, 1, 1, 0), 1000);
        Due.due("over", x.goFor(1000, 0, 0, 1, 0), 1);
        Due.due("over", x.goFor(1000, 0, 0, 2, 0), 0);
        Due.due("over", x.goFor(1000, 0, 0, 1, 1), -1);
        Due.due("count", x.goFor(1000, 10000, 0, 4, 0), NO_VALUE);
        Due.due("count", x.goFor(1000, 10000, 0, -4, 0), NO_VALUE);
        Due.due("what", x.goFor(1000, 10000, 0, 0, 2), NO_VALUE);
        Due.due("what", x.goFor(1000, 10000, 0, 0, -1), NO_VALUE);
        Due.due("CODE", x.goFor(4, 10000, 0, 0, 0), NO_VALUE);
        Due.due("CODE", x.goFor(1000, 31000, 0, 0, 0), NO_VALUE);
        Due.due("SIDE", x.goFor(1000, 10000, 2, 0, 0), NO_VALUE);
    }

    private static void toThrow() {
        PointOrShoot x = Due.by("a10(i=0&f=9|i=0&f=7)");
        Due.due("most for side 0, the nearest", x.toThrow(0, 0), 7);
        Due.due("VALUE", x.toThrow(0, 1), 3 * END);
        Due.due("fewest for side 1, the nearest", x.toThrow(1, 0), 6);
        Due.due("VALUE", x.toThrow(1, 1), 0);
        Due.due("FAR stays", x.count(0), 8);
        Due.due("chance at FAR", x.chance(30000, 30000, 1, 1, 0), 0);
        Due.law(x, "a10(i=1&f=10)");
        Due.due("side 1", x.toThrow(1, 0), 10);
        Due.due("VALUE", x.toThrow(1, 1), -3 * END);
        Due.due("side 0", x.toThrow(0, 0), 6);
        Due.due("SIDE", x.toThrow(2, 0), NO_VALUE);
        Due.due("SIDE", x.toThrow(-1, 0), NO_VALUE);
        Due.due("what", x.toThrow(0, 2), NO_VALUE);
        Due.due("what", x.toThrow(0, -1), NO_VALUE);
    }

    private static void byRules() {
        PointOrShoot x = Due.by(HALF);
        Due.rule(x, 0, "r2(i=i)");
        Due.rule(x, 2, "r1(i=i)");
        Due.due("side 1 shoots", x.by(0, 0, 10000, 10000, 1, 0), 2000);
        Due.due("side 1 points", x.by(0, 2, 10000, 10000, 1, 0), 0);
        Due.due("both BEST", x.by(-1, -1, 10000, 10000, 1, 0), -1500);
        Due.due("side 1 its BEST", x.by(2, -1, 10000, 10000, 1, 0), -1500);
        Due.due("side 0 its BEST", x.by(-1, 0, 10000, 10000, 1, 0), 2000);
        Due.due("it can't SHOOT", x.by(0, 0, 10000, 10000, 1, 1), 1);
        Due.due("THROW", x.by(0, 0, 1, 10000, 0, 1), 2);
        Due.due("THROW", x.by(0, 2, 1000, 10000, 0, 1), 1);
        Due.due("THROW by its BEST", x.by(0, -1, 1000, 10000, 0, 1), 2);
        Due.due("THROW by its BEST", x.by(0, -1, 1, 10000, 0, 1), 1);
        Due.due("over", x.by(0, 0, 1000, 0, 0, 0), 1);
        Due.due("over", x.by(0, 0, 1000, 0, 0, 1), -1);
        Due.due("not told", x.by(1, 0, 10000, 10000, 1, 0), NO_VALUE);
        Due.due("not told", x.by(0, 3, 10000, 10000, 1, 0), NO_VALUE);
        Due.due("RULE", x.by(4, 0, 10000, 10000, 1, 0), NO_VALUE);
        Due.due("RULE", x.by(0, -2, 10000, 10000, 1, 0), NO_VALUE);
        Due.due("CODE", x.by(0, 0, 4, 10000, 1, 0), NO_VALUE);
        Due.due("CODE", x.by(0, 0, 10000, 4, 1, 0), NO_VALUE);
        Due.due("SIDE", x.by(0, 0, 10000, 10000, 2, 0), NO_VALUE);
        Due.due("what", x.by(0, 0, 10000, 10000, 1, 2), NO_VALUE);
        Due.due("another RULE in its place", Due.rule(x, 0, "r1(i=i)"), 1);
        Due.due("side 1 points", x.by(0, 0, 10000, 10000, 1, 0), 0);
        PointOrShoot y = Due.by(RING_1_OR_TAKEN);
        Due.rule(y, 0, "r1(i=i)");
        Due.due("BEST against BEST: it shoots", y.best(10000, 10010, 1, 1), 2);
        Due.due("BEST against BEST", y.by(-1, -1, 10000, 10010, 1, 0), -10000);
        Due.due("BEST against a RULE: it points", y.by(-1, 0, 10000, 10010, 1, 1), 1);
        Due.due("BEST against a RULE", y.by(-1, 0, 10000, 10010, 1, 0), 10000);
    }

    private static void lastBall() {
        PointOrShoot x = Due.by(FIRST_WINS);
        Due.due("0 first", x.lastBall(1), END);
        Due.due("1 first", x.lastBall(2), -END);
        Due.due("the last ball", x.lastBall(0), -2 * END);
        Due.due("what", x.lastBall(3), NO_VALUE);
        Due.due("what", x.lastBall(-1), NO_VALUE);
        Due.law(x, "a10(v=3&f=7)");
        Due.due("at 8", x.lastBall(0), 0);
        x.far(7);
        Due.due("at 7", x.lastBall(0), -2 * END);
    }

    private static void game() {
        PointOrShoot x = Due.by("a10(i=0);h10(i=1)");
        Due.due("no RULE", x.game(0), -2);
        Due.due("no RULE", x.game(3), -2);
        Due.due("no such what, no RULE", x.game(4), -1);
        Due.rule(x, 1, "r2(i=i)");
        Due.rule(x, 3, "r1(i=i)");
        // VALUES: 1 by 1: 0. 1 by 3: 1. 3 by 1: 0. 3 by 3: 3 (times 100 six times).
        Due.due("1 by 1", x.by(1, 1, 30000, 30000, 1, 0), 0);
        Due.due("1 by 3", x.by(1, 3, 30000, 30000, 1, 0), END);
        Due.due("3 by 1", x.by(3, 1, 30000, 30000, 1, 0), 0);
        Due.due("3 by 3", x.by(3, 3, 30000, 30000, 1, 0), 3 * END);
        Due.due("LOW", x.game(0), 0);
        Due.due("LOW by, the lowest", x.game(1), 1);
        Due.due("HIGH", x.game(2), 0);
        Due.due("HIGH by", x.game(3), 1);
        Due.rule(x, 1, "r1(u=3);r2(i=0)");
        // Now side 1 never shoots: 1 by any is 1, 3 by any is 3.
        Due.due("LOW", x.game(0), 3 * END);
        Due.due("LOW by", x.game(1), 3);
        Due.due("HIGH", x.game(2), 3 * END);
        Due.due("HIGH by, the lowest", x.game(3), 1);
        Due.due("what", x.game(4), -1);
        Due.due("what", x.game(-1), -1);
        PointOrShoot y = Due.by("a10(i=0);h10(i=1)");
        Due.rule(y, 2, "r1(i=i)");
        Due.due("RULE 2 alone", y.game(1), 2);
        Due.due("RULE 2 alone", y.game(3), 2);
        Due.rule(y, 3, "r2(i=i)");
        Due.due("side 1 shoots: LOW", y.game(0), 0);
        Due.due("the lowest of like ones", y.game(1), 2);
        Due.due("side 1 shoots: HIGH", y.game(2), 0);
        Due.due("HIGH by", y.game(3), 3);
    }

    private static void match() {
        PointOrShoot x = Due.by("a7(i=0&v=3);c10(i=1)");
        // Side 0 first: 1 in 70 of 100, else -3; side 1 first: -3.
        Due.due("counts", x.likely(30000, 30000, 1, 1), 7 * END / 10);
        Due.due("counts", x.likely(30000, 30000, 1, -3), 3 * END / 10);
        Due.due("counts", x.likely(30000, 30000, 0, -3), END);
        Due.due("12 to 12", x.match(12, 12, 0), 700000);
        Due.due("12 to 12", x.match(12, 12, 1), 0);
        Due.due("11 to 12", x.match(11, 12, 0), 490000);
        Due.due("7 to 12", x.match(7, 12, 0), 117649);
        Due.due("6 to 12", x.match(6, 12, 0), 82354);
        Due.due("5 to 12: cut off at each SCORE", x.match(5, 12, 0), 57647);
        Due.due("12 to 10", x.match(12, 10, 0), 700000);
        // Behind -3 side 1 plays first: it has 12 then.
        Due.due("12 to 9", x.match(12, 9, 0), 700000);
        Due.due("13 to 0", x.match(13, 0, 1), 1000000);
        Due.due("0 to 13", x.match(0, 13, 0), 0);
        Due.due("both 13", x.match(13, 13, 0), -1);
        Due.due("SCORE", x.match(14, 0, 0), -1);
        Due.due("SCORE", x.match(-1, 0, 0), -1);
        Due.due("SCORE", x.match(0, 14, 0), -1);
        Due.due("SCORE", x.match(0, -1, 0), -1);
        Due.due("SIDE", x.match(0, 0, 2), -1);
        Due.due("SIDE", x.match(13, 0, -1), -1);
        // Ends without points are played again: half of them.
        PointOrShoot y = Due.by("a5(v=3)");
        Due.due("counts", y.likely(30000, 30000, 1, 0), END / 2);
        Due.due("0 first", y.match(0, 0, 0), 1000000);
        Due.due("1 first", y.match(0, 0, 1), 0);
        PointOrShoot z = Due.by("a10(i=i)");
        Due.due("never points", z.match(5, 3, 1), 500000);
        Due.due("never points", z.match(13, 3, 1), 1000000);
        PointOrShoot w = Due.by("a10(v=3&i=0)");
        // 0 first: 1; 1 first: its balls and those of 0 all lie in ring 3: nobody.
        Due.due("1 first", w.match(0, 0, 1), 500000);
        Due.due("0 first", w.match(0, 0, 0), 1000000);
        Due.law(w, "a10(v=3&i=0&f=8)");
        Due.due("at 8", w.match(0, 0, 0), 1000000);
        w.far(9);
        Due.due("at 9", w.match(0, 0, 0), 500000);
    }

    private static void drawn() {
        PointOrShoot x = Due.by(HALF);
        Due.due("over", x.drawn(-1, -1, 1000, 100, 0), 1);
        Due.due("X stays", x.count(3), 1);
        // 22: ring 0; 87: the shot misses.
        Due.due("drawn", x.drawn(-1, -1, 10000, 10000, 1), 1);
        Due.due("X", x.count(3), 61087);
        x.seed(1);
        Due.law(x, "a2(i=i);b1(i=i);c5(i=i)");
        // 22 is behind 20, ahead of 30: ring 1; 87 is behind 80: ring 3.
        Due.due("rings", x.drawn(-1, -1, 10000, 10000, 1), 1);
        Due.due("ring 1", x.log(31), 100);
        Due.due("ring 3", x.log(42), 1);
        x.seed(1);
        Due.law(x, "a2(i=i);c6(i=i)");
        x.drawn(-1, -1, 10000, 10000, 1);
        Due.due("ring 2", x.log(31), 10);
        Due.rule(x, 0, "r2(i=i)");
        drawnShot(x, "h3(i=i);k8(i=i)", 1000, 0);
        drawnShot(x, "h3(i=i);k7(i=i)", 0, 0);
        drawnShot(x, "h2(i=i);k10(i=i)", 0, 1000);
        drawnShot(x, "h10(i=i);k2(i=i)", 0, 0);
        Due.due("not told", x.drawn(1, 0, 10000, 1000, 1), -100);
        Due.due("not told", x.drawn(0, 2, 10000, 1000, 1), -100);
        Due.due("RULE", x.drawn(4, 0, 10000, 1000, 1), -100);
        Due.due("RULE", x.drawn(0, -2, 10000, 1000, 1), -100);
        Due.due("CODE", x.drawn(0, 0, 4, 1000, 1), -100);
        Due.due("CODE", x.drawn(0, 0, 1000, 4, 1), -100);
        Due.due("SIDE", x.drawn(0, 0, 10000, 1000, 2), -100);
        Due.due("LOG stays", x.log(0), 1);
        Due.due("X stays", x.count(3), 39022);
        Due.due("for side 1", x.drawn(0, 0, 0, 3, 1), -3);
        PointOrShoot y = Due.by(RING_1_OR_TAKEN);
        Due.rule(y, 0, "r1(i=i)");
        Due.due("BEST against BEST", y.drawn(-1, -1, 10000, 10010, 1), -1);
        Due.due("it shoots", y.log(10), 2);
        Due.due("BEST against what the other one does", y.drawn(-1, 0, 10000, 10010, 1), 1);
        Due.due("it points", y.log(10), 1);
    }

    /** 22 falls on a shot at a ball in ring 0: the codes behind it. */
    private static void drawnShot(PointOrShoot x, String law, int code, int other) {
        Due.law(x, law);
        x.seed(1);
        Due.due("points by " + law, x.drawn(0, -1, 10000, 1000, 1), x.points(code, other));
        Due.due("THROW", x.log(10), 2);
        Due.due("CODE by " + law, x.log(31), code);
        Due.due("CODE by " + law, x.log(41), other);
    }

    private static void log() {
        PointOrShoot x = Due.by(HALF);
        Due.due("none", x.log(0), -1);
        Due.due("none", x.log(30), -1);
        x.drawn(-1, -1, 2000, 10, 1);
        Due.due("no THROW", x.log(0), 0);
        Due.due("its CODE", x.log(30), 2000);
        Due.due("its CODE", x.log(40), 10);
        Due.due("no THROW 0", x.log(10), -1);
        Due.due("no THROW 0", x.log(20), -1);
        Due.due("not behind", x.log(31), -1);
        x.drawn(-1, -1, 10000, 10000, 1);
        int[][] due = {{0, 2}, {10, 1}, {11, 2}, {12, -1}, {20, 0}, {21, 1}, {22, -1}, {30, 10000}, {31, 1000},
            {32, 1000}, {33, -1}, {40, 10000}, {41, 10000}, {42, 0}, {43, -1}, {1, -1}, {9, -1}, {-1, -1}, {50, -1}};
        for (int[] one : due) {
            Due.due("log " + one[0], x.log(one[0]), one[1]);
        }
        x.drawn(-1, -1, 30000, 30000, 0);
        Due.due("six THROWS", x.log(0), 6);
        Due.due("1 plays first", x.log(20), 1);
        Due.due("the sixth", x.log(15) > 0 ? 1 : 0, 1);
        Due.due("no seventh", x.log(16), -1);
        Due.due("behind the last", x.log(36) >= 0 ? 1 : 0, 1);
        Due.due("behind the last", x.log(46) >= 0 ? 1 : 0, 1);
        Due.due("in hand behind the last", (x.log(36) + x.log(46)) / 10000, 0);
        Due.due("no more", x.log(37), -1);
        Due.due("no more", x.log(47), -1);
    }

    private static void wrongThrows() {
        PointOrShoot x = Due.by(HALF);
        Due.rule(x, 1, "r1(i=i)");
        Due.due("no LOG", x.wrong(0, 0), -1);
        Due.due("no LOG", x.wrong(0, 1), -1);
        x.drawn(-1, -1, 1000, 0, 0);
        Due.due("no THROW", x.wrong(0, 0), -1);
        Due.due("no THROW", x.wrong(0, 1), -1);
        Due.due("no THROW", x.wrong(0, 2), -1);
        x.drawn(1, 1, 10000, 10000, 1);
        Due.due("the best", x.wrong(0, 0), 0);
        // By 50 in place of 20 side 1 loses 30, behind one THROW.
        Due.due("the second", x.wrong(1, 0), 3000);
        Due.due("the WORST", x.wrong(77, 1), 1);
        Due.due("by how much", x.wrong(-5, 2), 3000);
        Due.due("THROW", x.wrong(2, 0), -1);
        Due.due("THROW", x.wrong(-1, 0), -1);
        Due.due("what", x.wrong(0, 3), -1);
        Due.due("what", x.wrong(0, -1), -1);
        x.seed(1);
        x.drawn(-1, -1, 10000, 10000, 1);
        Due.due("of like ones the first", x.wrong(0, 1), 0);
        Due.due("none is wrong", x.wrong(0, 2), 0);
        // Side 0 loses, too: to shoot at a ball in ring 3 in place of pointing.
        Due.rule(x, 2, "r2(i=i)");
        x.drawn(2, 2, 10000, 1, 1);
        Due.due("side 0", x.wrong(0, 0), 50 + 20);
    }

    private static void shot() {
        PointOrShoot x = new PointOrShoot();
        Due.due("FAR", x.shot(5, true), -1);
        Due.due("FAR", x.shot(11, false), -1);
        Due.due("none", x.book(0), 0);
        for (int i = 1; i <= 60; i++) {
            Due.due("shot", x.shot(6 + i % 5, i % 3 == 0), i);
        }
        Due.due("61st", x.shot(6, true), -1);
        Due.due("61st of a wrong FAR", x.shot(5, true), -1);
        Due.due("60", x.book(0), 60);
        Due.due("hits", x.book(1), 20);
    }

    private static void book() {
        PointOrShoot x = new PointOrShoot();
        x.shot(6, true);
        x.shot(6, false);
        x.shot(7, true);
        x.shot(10, false);
        x.shot(10, false);
        x.shot(9, true);
        int[][] due = {{0, 6}, {1, 3}, {16, 2}, {17, 1}, {18, 0}, {19, 1}, {20, 2}, {26, 1}, {27, 1}, {28, 0}, {29, 1},
            {30, 0}, {2, -1}, {15, -1}, {21, -1}, {25, -1}, {31, -1}, {-1, -1}};
        for (int[] one : due) {
            Due.due("book " + one[0], x.book(one[0]), one[1]);
        }
    }

    private static void fits() {
        PointOrShoot x = new PointOrShoot();
        Due.due("empty", x.fits(1, 1, 9, 0), 0);
        x.shot(6, true);
        Due.due("a hit", x.fits(7, 0, 6, 0), 1);
        Due.due("a hit", x.fits(6, 0, 7, 0), 2);
        Due.due("less does not count at 6", x.fits(6, 0, 6, 3), 0);
        x.shot(8, false);
        Due.due("a miss: 7 by 9 and 7 by 3", x.fits(7, 3, 7, 0), 1);
        x.shot(10, false);
        // 2 by 10 by 10 (0 at least) and 2 by 9 by 10.
        Due.due("0 at least", x.fits(2, 3, 2, 0), 1);
        Due.due("0 at least: alike", x.fits(2, 3, 2, 1), 0);
        Due.due("none by 0", x.fits(0, 0, 0, 3), 0);
        Due.due("none by 0", x.fits(0, 0, 1, 3), 2);
        PointOrShoot y = new PointOrShoot();
        for (int i = 0; i < 30; i++) {
            y.shot(6, true);
            y.shot(6, false);
        }
        Due.due("24 and 25, thirty times", y.fits(4, 0, 5, 0), 2);
        Due.due("24 and 24, thirty times", y.fits(4, 1, 6, 2), 0);
        Due.due("21 and 24, thirty times", y.fits(6, 1, 7, 2), 1);
        PointOrShoot z = new PointOrShoot();
        for (int i = 0; i < 60; i++) {
            z.shot(6, true);
        }
        Due.due("10 and 9, sixty times", z.fits(10, 0, 9, 0), 1);
        Due.due("9 and 10, sixty times", z.fits(9, 0, 10, 0), 2);
        Due.due("10 and 10, sixty times", z.fits(10, 0, 10, 3), 0);
        int[][] bad = {{11, 0, 5, 0}, {-1, 0, 5, 0}, {5, 4, 5, 0}, {5, -1, 5, 0}, {5, 0, 11, 0}, {5, 0, -1, 0}, {5, 0, 5, 4}, {5, 0, 5, -1}};
        for (int[] one : bad) {
            Due.due("guess", x.fits(one[0], one[1], one[2], one[3]), -1);
        }
    }

    private static void rolled(PointOrShoot x, int[] call, int stop, int went) {
        Due.due("stop of push " + call[3], x.roll(call[0], call[1], call[2], call[3], 0), stop);
        Due.due("went by push " + call[3], x.roll(call[0], call[1], call[2], call[3], 1), went);
    }

    private static void roll() {
        PointOrShoot x = new PointOrShoot();
        rolled(x, new int[] {3, 3, 0, 2}, 43, 2);
        rolled(x, new int[] {3, 3, 1, 2}, 29, 2);
        rolled(x, new int[] {3, 3, 2, 2}, 11, 2);
        rolled(x, new int[] {3, 3, 3, 2}, 25, 2);
        rolled(x, new int[] {3, 3, 0, 0}, 27, 0);
        rolled(x, new int[] {3, 3, 0, 4}, 59, 4);
        rolled(x, new int[] {3, 3, 0, 5}, -2, 4);
        rolled(x, new int[] {3, 3, 2, 4}, -2, 3);
        rolled(x, new int[] {3, 3, 1, 9}, -2, 4);
        rolled(x, new int[] {3, 3, 3, 4}, -2, 3);
        rolled(x, new int[] {0, 0, 3, 1}, -2, 0);
        Due.ground(x, "98765432/02000000/h0/h0/h0/h0/h0/h0");
        rolled(x, new int[] {0, 0, 1, 1}, -2, 7);
        rolled(x, new int[] {7, 0, 3, 3}, 5, 2);
        rolled(x, new int[] {0, 1, 1, 1}, 9, 1);
        rolled(x, new int[] {0, 1, 1, 3}, 9, 1);
        // 4: 1 on the hill, 2 behind it, 1, 0.
        rolled(x, new int[] {0, 1, 1, 4}, 12, 4);
        rolled(x, new int[] {0, 0, 0, 1}, -2, 7);
        rolled(x, new int[] {1, 7, 2, 7}, 9, 6);
        int[][] bad = {{8, 0, 0, 0, 0}, {-1, 0, 0, 0, 0}, {0, 8, 0, 0, 0}, {0, -1, 0, 0, 0}, {0, 0, 4, 0, 0}, {0, 0, -1, 0, 0},
            {0, 0, 0, 10, 0}, {0, 0, 0, -1, 0}, {0, 0, 0, 0, 2}, {0, 0, 0, 0, -1}};
        for (int[] one : bad) {
            Due.due("roll", x.roll(one[0], one[1], one[2], one[3], one[4]), -1);
        }
    }

    private static void laid(PointOrShoot x, int toX, int toY, int[] due) {
        for (int what = 0; what < 3; what++) {
            Due.due("lay near " + toX + " " + toY + ", " + what, x.lay(toX, toY, what), due[what]);
        }
    }

    private static void lay() {
        PointOrShoot x = new PointOrShoot();
        laid(x, 3, 2, new int[] {2, 3, 19});
        laid(x, 7, 7, new int[] {7, 7, 63});
        laid(x, 0, 4, new int[] {4, 1, 33});
        Due.ground(x, "09f0/h0/h0/76543210/10f0/h0/h0/h0");
        // Near (2, 3) lie (2, 2) by push 2 and (2, 4) by push 1.
        laid(x, 2, 3, new int[] {4, 1, 34});
        laid(x, 1, 0, new int[] {0, 1, 1});
        Due.ground(x, "h0/h0/09f0/76543210/09f0/h0/h0/h0");
        // Near (1, 3) lie (1, 2) and (1, 4), both by push 1 and by more.
        laid(x, 1, 3, new int[] {2, 1, 17});
        // No push of these rows ends on the ground.
        String down = "76543210";
        Due.ground(x, down + "/" + down + "/" + down + "/" + down + "/" + down + "/" + down + "/" + down + "/" + down);
        laid(x, 1, 3, new int[] {-2, -2, -2});
        Due.due("spot, though none stays", x.lay(8, 0, 0), -1);
        Due.due("spot", x.lay(-1, 0, 0), -1);
        Due.due("spot", x.lay(0, 8, 0), -1);
        Due.due("spot", x.lay(0, -1, 0), -1);
        Due.due("what", x.lay(0, 0, 3), -1);
        Due.due("what", x.lay(0, 0, -1), -1);
    }

    private static void ball() {
        PointOrShoot x = new PointOrShoot();
        Due.due("SIDE", x.ball(2, 0, 0), -1);
        Due.due("SIDE", x.ball(-1, 0, 0), -1);
        Due.due("x", x.ball(0, 100, 0), -1);
        Due.due("x", x.ball(0, -1, 0), -1);
        Due.due("y", x.ball(0, 0, 100), -1);
        Due.due("y", x.ball(0, 0, -1), -1);
        Due.due("none", x.count(4), 0);
        for (int i = 0; i < 12; i++) {
            Due.due("ball", x.ball(i % 2, i, 99 - i), i);
        }
        Due.due("13th", x.ball(0, 0, 0), -1);
        Due.due("12", x.count(4), 12);
        Due.due("SIDE of the last", x.count(31), 1);
        Due.due("place of the last", x.count(51), 8811);
        Due.due("place of the first", x.count(40), 9900);
    }

    private static void pig() {
        PointOrShoot x = new PointOrShoot();
        Due.no("x", x.pig(100, 0));
        Due.no("x", x.pig(-1, 0));
        Due.no("y", x.pig(0, 100));
        Due.no("y", x.pig(0, -1));
        Due.due("at first", x.count(5), 5050);
        Due.yes("pig", x.pig(99, 0));
        Due.due("pig", x.count(5), 99);
        Due.yes("pig", x.pig(0, 99));
        Due.due("pig", x.count(5), 9900);
    }

    private static void gone() {
        PointOrShoot x = new PointOrShoot();
        Due.no("none lies", x.gone(0));
        x.ball(0, 1, 1);
        x.ball(1, 2, 2);
        x.ball(0, 3, 3);
        Due.no("no such one", x.gone(3));
        Due.no("no such one", x.gone(-1));
        Due.yes("gone", x.gone(0));
        Due.due("two", x.count(4), 2);
        Due.due("SIDE", x.count(20), 1);
        Due.due("place", x.count(40), 202);
        Due.due("SIDE", x.count(21), 0);
        Due.due("place", x.count(41), 303);
        Due.due("no third", x.count(42), -1);
        Due.yes("the last", x.gone(1));
        Due.no("again", x.gone(1));
        Due.due("one", x.count(4), 1);
        Due.due("the next one's number", x.ball(1, 9, 9), 1);
    }

    private static void measures(PointOrShoot x, int[] due) {
        for (int what = 0; what < 4; what++) {
            Due.due("measured " + what, x.measured(what), due[what]);
        }
    }

    private static void measured() {
        PointOrShoot x = new PointOrShoot();
        measures(x, new int[] {-2, 0, -2, -2});
        x.ball(0, 50, 60);
        measures(x, new int[] {0, 1, 0, 100});
        x.ball(0, 56, 58);
        measures(x, new int[] {0, 2, 0, 100});
        x.ball(1, 50, 40);
        measures(x, new int[] {-2, 0, 0, 100});
        x.ball(1, 50, 41);
        measures(x, new int[] {1, -1, 3, 81});
        x.ball(0, 41, 50);
        measures(x, new int[] {-2, 0, 3, 81});
        x.ball(1, 47, 46);
        x.ball(1, 46, 47);
        measures(x, new int[] {1, -2, 5, 25});
        x.pig(0, 0);
        // As near as the nearest of side 0: ball 3 is nobody's POINT.
        measures(x, new int[] {1, -1, 2, 4100});
        x.pig(99, 99);
        measures(x, new int[] {0, 2, 1, 43 * 43 + 41 * 41});
        Due.due("what", x.measured(4), -100);
        Due.due("what", x.measured(-1), -100);
    }

    private static void toShoot() {
        PointOrShoot x = new PointOrShoot();
        Due.due("SIDE", x.toShoot(2), -1);
        Due.due("SIDE", x.toShoot(-1), -1);
        Due.due("none", x.toShoot(0), -2);
        x.ball(0, 50, 52);
        Due.due("none of the other one", x.toShoot(0), -2);
        Due.due("the only one", x.toShoot(1), 0);
        x.ball(1, 50, 53);
        x.ball(0, 50, 54);
        x.ball(1, 50, 51);
        // Side 1 holds with ball 3 alone; without it side 0 has 1 (ball 1 is behind ball 0).
        Due.due("the one that matters", x.toShoot(0), 3);
        Due.due("of like ones the first", x.toShoot(1), 0);
        x.ball(1, 50, 49);
        // Two of side 1 stand ahead of ball 0: without one of them it still has 1.
        Due.due("of like ones the first", x.toShoot(0), 3);
        Due.due("side 1: behind ball 0 ball 1 counts, too", x.toShoot(1), 0);
    }

    private static void seed() {
        PointOrShoot x = Due.by(HALF);
        Due.no("-1", x.seed(-1));
        Due.no("65536", x.seed(65536));
        Due.due("X", x.count(3), 1);
        Due.yes("0", x.seed(0));
        Due.due("X", x.count(3), 0);
        x.drawn(-1, -1, 10000, 0, 1);
        Due.due("X behind a THROW", x.count(3), 13849);
        Due.yes("65535", x.seed(65535));
        Due.due("X", x.count(3), 65535);
        // 25173 times 65535 and 13849 more: less than 0 times 25173 by that, round about.
        x.drawn(-1, -1, 10000, 0, 1);
        Due.due("X behind a THROW", x.count(3), 65536 + 13849 - 25173);
        Due.due("LOG stays", x.seed(5) ? x.log(0) : -9, 1);
    }

    private static void keep() {
        PointOrShoot x = new PointOrShoot();
        Due.due("none", x.keep(), 0);
        x.shot(6, true);
        x.shot(7, true);
        Due.due("two", x.keep(), 2);
        x.shot(7, true);
        Due.yes("undo", x.undo());
        Due.due("as they were KEPT last", x.book(0), 2);
        x.shot(8, false);
        Due.due("three", x.keep(), 3);
        x.undo();
        Due.due("three", x.book(0), 3);
    }

    private static void undo() {
        PointOrShoot x = Due.by(HALF);
        x.drawn(-1, -1, 10000, 0, 1);
        Due.no("none was KEPT", x.undo());
        Due.due("LOG stays", x.log(0), 1);
        x.far(7);
        x.shot(6, true);
        x.ball(1, 3, 4);
        x.ball(0, 5, 6);
        x.pig(10, 20);
        x.seed(77);
        x.keep();
        x.far(10);
        x.shot(9, false);
        x.gone(0);
        x.ball(1, 9, 9);
        x.ball(1, 9, 8);
        x.pig(1, 2);
        x.seed(5);
        Due.law(x, "a9(f=7);a1(i=i)");
        Due.rule(x, 0, "r2(i=i)");
        Due.ground(x, "h1/h1/h1/h1/h1/h1/h1/h1");
        Due.due("at 10", x.best(10000, 1, 1, 0), 10);
        x.drawn(-1, -1, 10000, 0, 1);
        x.feed(1, 2, 3, 4, 5);
        Due.yes("undo", x.undo());
        Due.due("LOG falls", x.log(0), -1);
        Due.due("FAR", x.count(0), 7);
        Due.due("at 7", x.best(10000, 1, 1, 0), 90);
        Due.due("X", x.count(3), 77);
        Due.due("shots", x.book(0), 1);
        Due.due("hits from 6", x.book(26), 1);
        Due.due("shots from 9", x.book(19), 0);
        Due.due("balls", x.count(4), 2);
        Due.due("SIDE", x.count(20), 1);
        Due.due("place", x.count(40), 403);
        Due.due("place", x.count(41), 605);
        Due.due("pig", x.count(5), 2010);
        Due.due("LAW stays", x.count(1), 2);
        Due.due("RULE stays", x.count(10), 1);
        Due.due("GROUND stays", x.count(100), 1);
        Due.due("tape stays", x.count(2), 20);
        x.pig(9, 9);
        Due.yes("again", x.undo());
        Due.due("pig", x.count(5), 2010);
    }

    private static void check() {
        PointOrShoot x = new PointOrShoot();
        Due.ground(x, "12345678/h9/h0/h0/h0/h0/h0/h0");
        Due.due("0 numbers of none", x.check(0), -1);
        Due.due("1 of none", x.check(1), -2);
        x.feed(1, 2, 3, 4, 5);
        Due.due("more than there are", x.check(6), -2);
        Due.due("n 9", x.check(9), -2);
        Due.due("n -1", x.check(-1), -2);
        Due.due("tape stays", x.count(2), 20);
        Due.due("right", x.check(5), -1);
        Due.due("tape is empty", x.count(2), 0);
        x.feed(1, 2, 3, 4, 5);
        x.feed(6, 7, 8, 9, 9);
        Due.due("n 9", x.check(9), -2);
        Due.due("all eight", x.check(8), -1);
        x.feed(1, 2, 3, 4, 5);
        x.feed(6, 7, 9, 9, 9);
        Due.due("the eighth", x.check(8), 7);
        x.feed(0, 2, 9, 4, 5);
        Due.due("the first that is not so", x.check(5), 0);
        x.feed(1, 2 + (1 << 24), 9, 4, 5);
        Due.due("four bytes each", x.check(2), 1);
        x.feed(1, 2, 9, 4, 5);
        Due.due("no more than n", x.check(2), -1);
        Due.due("tape is empty", x.count(2), 0);
        x.feed(9, 2, 9, 4, 5);
        Due.due("0 numbers", x.check(0), -1);
        Due.due("tape is empty", x.count(2), 0);
    }

    private static void count() {
        PointOrShoot x = Due.by(ALL_FIVE);
        x.far(9);
        x.feed(1, 2, 3, 4, 5);
        x.seed(17);
        x.ball(1, 7, 8);
        x.ball(0, 70, 80);
        x.pig(12, 34);
        int[][] due = {{0, 9}, {1, 5}, {2, 20}, {3, 17}, {4, 2}, {5, 3412}, {20, 1}, {21, 0}, {40, 807}, {41, 8070}, {22, -1},
            {42, -1}, {6, -1}, {9, -1}, {14, -1}, {19, -1}, {39, -1}, {99, -1}, {164, -1}, {-1, -1}};
        for (int[] one : due) {
            Due.due("count " + one[0], x.count(one[0]), one[1]);
        }
        Due.rule(x, 0, "r1(i=i)");
        Due.rule(x, 3, "r1(i=i);r2(i=i)");
        Due.ground(x, "10000002/h0/h0/h0/h0/h0/h0/30000004");
        int[][] more = {{10, 1}, {11, 0}, {12, 0}, {13, 2}, {100, 1}, {107, 2}, {156, 3}, {163, 4}, {2, 0}};
        for (int[] one : more) {
            Due.due("count " + one[0], x.count(one[0]), one[1]);
        }
    }
}
