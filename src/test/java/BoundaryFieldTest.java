/**
 * Promises 21 to 35: each sentence of the document that names a boundary case, by a test of its own: the book of
 * shots, balls that roll and lie, the seed, what is kept and undone, what is told.
 */
public final class BoundaryFieldTest {
    private interface ByOne {
        long of(int number);
    }

    public static void main(String[] args) {
        shot();
        book();
        fits();
        fitsExactly();
        roll();
        lay();
        ball();
        pig();
        gone();
        measured();
        toShoot();
        seed();
        keep();
        undo();
        check();
        count();
        Due.end("sentences on the book, the ground, the field and what is kept hold");
    }

    private static void noSuch(String name, int[] numbers, long answer, ByOne call) {
        for (int number : numbers) {
            Due.due("with " + name + " " + number, call.of(number), answer);
        }
    }

    // ---- promise 21

    private static void shot() {
        Due.promise(21);
        Due.sentence("from how FAR (6 to 10)", () -> {
            PointOrShoot x = new PointOrShoot();
            for (int far = 6; far <= 10; far++) {
                Due.due("shot from " + far, x.shot(far, far % 2 == 0), far - 5);
                Due.due("shots from " + far, x.book(10 + far), 1);
                Due.due("hits from " + far, x.book(20 + far), 1 - far % 2);
            }
        });
        Due.sentence("NONE: no such FAR", () -> {
            PointOrShoot x = new PointOrShoot();
            noSuch("FAR", Due.outside(6, 10), -1, far -> x.shot(far, true));
            noSuch("FAR", new int[] {0, 1, 4, 5, 11, 12}, -1, far -> x.shot(far, false));
            Due.due("shots", x.book(0), 0);
        });
        Due.sentence("shots (60 at most): NONE: 60 are there", () -> {
            for (int all = 0; all < 2; all++) {
                PointOrShoot x = new PointOrShoot();
                for (int i = 1; i <= 60; i++) {
                    Due.due("shot " + i, x.shot(6, all == 1), i);
                }
                Due.due("the 61st", x.shot(6, true), -1);
                Due.due("the 61st", x.shot(10, false), -1);
                Due.due("shots", x.book(0), 60);
                Due.due("hits", x.book(1), 60 * all);
                Due.due("shots from 10", x.book(20), 0);
            }
        });
        Due.sentence("60 are there, and no such FAR", () -> {
            PointOrShoot x = full();
            Due.due("the 61st from 5", x.shot(5, true), -1);
            Due.due("shots", x.book(0), 60);
        });
        Due.sentence("60 are there: UNDONE there are less", () -> {
            PointOrShoot x = new PointOrShoot();
            x.shot(7, true);
            x.keep();
            for (int i = 2; i <= 60; i++) {
                x.shot(8, false);
            }
            Due.due("the 61st", x.shot(6, true), -1);
            x.undo();
            Due.due("the second", x.shot(6, true), 2);
        });
    }

    private static PointOrShoot full() {
        PointOrShoot x = new PointOrShoot();
        for (int i = 0; i < 60; i++) {
            x.shot(6 + i % 5, i % 3 == 0);
        }
        return x;
    }

    // ---- promise 22

    private static void book() {
        Due.promise(22);
        Due.sentence("THE BOOK that is empty", () -> {
            PointOrShoot x = new PointOrShoot();
            for (int what = 0; what <= 35; what++) {
                boolean isOne = what < 2 || what >= 16 && what <= 20 || what >= 26 && what <= 30;
                Due.due("book " + what, x.book(what), isOne ? 0 : -1);
            }
        });
        Due.sentence("THE BOOK that is full", () -> {
            PointOrShoot x = full();
            Due.due("shots", x.book(0), 60);
            Due.due("hits", x.book(1), 20);
            for (int far = 6; far <= 10; far++) {
                Due.due("shots from " + far, x.book(10 + far), 12);
                Due.due("hits from " + far, x.book(20 + far), 4);
            }
        });
        Due.sentence("(6 to 10); NONE for others", () -> {
            PointOrShoot x = full();
            noSuch("what", new int[] {2, 3, 5, 6, 9, 10, 11, 14, 15, 21, 22, 24, 25, 31, 32, 36, 40}, -1, x::book);
            noSuch("what", Due.outside(0, 30), -1, x::book);
        });
    }

    // ---- promise 23

    private static void fits() {
        Due.promise(23);
        Due.sentence("guesses (0 to 10)", () -> {
            PointOrShoot x = new PointOrShoot();
            x.shot(6, true);
            Due.due("10 and 9", x.fits(10, 0, 9, 0), 1);
            Due.due("0 and 1", x.fits(0, 0, 1, 0), 2);
            noSuch("tenths at 6", Due.outside(0, 10), -1, at6 -> x.fits(at6, 0, 5, 0));
            noSuch("tenths at 6 of the other", Due.outside(0, 10), -1, at6 -> x.fits(5, 0, at6, 0));
        });
        Due.sentence("guesses (.. 0 to 3)", () -> {
            PointOrShoot x = new PointOrShoot();
            x.shot(7, true);
            Due.due("3 less and 2 less", x.fits(10, 3, 10, 2), 2);
            Due.due("0 less and 1 less", x.fits(10, 0, 10, 1), 1);
            noSuch("how many less", Due.outside(0, 3), -1, less -> x.fits(5, less, 5, 0));
            noSuch("how many less of the other", Due.outside(0, 3), -1, less -> x.fits(5, 0, 5, less));
        });
        Due.sentence("NONE: no such ones, with an empty BOOK, too", () -> {
            PointOrShoot x = new PointOrShoot();
            Due.due("11", x.fits(11, 0, 5, 0), -1);
            Due.due("4 less", x.fits(5, 0, 5, 4), -1);
            Due.due("those there are", x.fits(10, 3, 0, 0), 0);
        });
        Due.sentence("0 alike: an empty BOOK", () -> {
            PointOrShoot x = new PointOrShoot();
            Due.due("10 and 0", x.fits(10, 0, 0, 3), 0);
            Due.due("0 and 10", x.fits(0, 0, 10, 0), 0);
        });
        Due.sentence("how many tenths less for each step farther", () -> {
            for (int steps = 0; steps <= 4; steps++) {
                PointOrShoot x = new PointOrShoot();
                x.shot(6 + steps, true);
                for (int less = 0; less < 3; less++) {
                    int tenths = 10 - steps * less;
                    Due.due("at " + (6 + steps), x.fits(10, less, tenths, 0), 0);
                    Due.due("at " + (6 + steps), x.fits(10, less, tenths - 1, 0), 1);
                    Due.due("at " + (6 + steps), x.fits(tenths - 1, 0, 10, less), 2);
                }
            }
        });
        Due.sentence("0 at least", () -> {
            PointOrShoot x = new PointOrShoot();
            x.shot(10, false);
            // 2 less 4 times 3 is no more a miss than 0 is; 10 less 0 is more than 10 less 1.
            Due.due("below 0, and 0", x.fits(2, 3, 0, 0), 0);
            Due.due("0, and below 0", x.fits(0, 0, 2, 3), 0);
            Due.due("below 0, and 1", x.fits(2, 3, 1, 0), 1);
            x.shot(10, true);
            x.shot(10, true);
            Due.due("two hits by less than 0, and by 1", x.fits(2, 3, 1, 0), 2);
            Due.due("two hits by less than 0, and by 0", x.fits(2, 3, 0, 0), 0);
        });
        Due.sentence("hits: those, else 10 less those", () -> {
            PointOrShoot x = new PointOrShoot();
            x.shot(6, false);
            Due.due("a miss by 10 and 9", x.fits(10, 0, 9, 0), 2);
            Due.due("a miss by 0 and 1", x.fits(0, 0, 1, 0), 1);
            x.shot(6, true);
            Due.due("3 by 7 and 7 by 3", x.fits(3, 0, 7, 0), 0);
            Due.due("0 by 10 and 10 by 0", x.fits(0, 0, 10, 0), 0);
            Due.due("5 by 5 and 4 by 6", x.fits(5, 0, 4, 0), 1);
        });
    }

    private static void shots(PointOrShoot x, int far, boolean hit, int many) {
        for (int i = 0; i < many; i++) {
            x.shot(far, hit);
        }
    }

    private static void fitsExactly() {
        Due.promise(23);
        Due.sentence("products of tenths: 60 of 10, far beyond 64 bits", () -> {
            PointOrShoot x = new PointOrShoot();
            shots(x, 6, true, 60);
            for (int other = 1; other < 10; other++) {
                Due.due("10 and " + other, x.fits(10, 0, other, 0), 1);
                Due.due(other + " and 10", x.fits(other, 0, 10, 0), 2);
                Due.due(other + " and one less", x.fits(other, 0, other - 1, 0), 1);
            }
            Due.due("10 and 10", x.fits(10, 0, 10, 3), 0);
        });
        Due.sentence("products that wrap around to 0 in 64 bits", () -> {
            // 8 at 6 and 2 at 8 beside 4 at both: 2 to the power of 122, 120, 118 beside 120.
            PointOrShoot x = new PointOrShoot();
            shots(x, 6, true, 31);
            shots(x, 8, true, 29);
            Due.due("122 and 120", x.fits(8, 3, 4, 0), 1);
            PointOrShoot y = new PointOrShoot();
            shots(y, 6, true, 30);
            shots(y, 8, true, 30);
            Due.due("120 and 120", y.fits(8, 3, 4, 0), 0);
            PointOrShoot z = new PointOrShoot();
            shots(z, 6, true, 29);
            shots(z, 8, true, 31);
            Due.due("118 and 120", z.fits(8, 3, 4, 0), 2);
        });
        Due.sentence("products that are nearly alike", () -> {
            PointOrShoot x = new PointOrShoot();
            shots(x, 8, true, 16);
            shots(x, 10, false, 5);
            // 9007199254740992 and 9010162353515625.
            Due.due("8 and 9 less 2", x.fits(8, 0, 9, 2), 2);
            Due.due("9 less 2 and 8", x.fits(9, 2, 8, 0), 1);
            PointOrShoot y = new PointOrShoot();
            shots(y, 6, true, 9);
            shots(y, 8, false, 19);
            shots(y, 9, false, 18);
            // 10 to the power of 37, and 9999993806016810331980126850576809984.
            Due.due("1 less 1 and 6 less 1", y.fits(1, 1, 6, 1), 1);
            Due.due("6 less 1 and 1 less 1", y.fits(6, 1, 1, 1), 2);
        });
    }

    // ---- promise 24

    private static void rolled(PointOrShoot x, int[] call, int stop, int went) {
        String what = "(" + call[0] + ", " + call[1] + ") way " + call[2] + " push " + call[3];
        Due.due("stop of " + what, x.roll(call[0], call[1], call[2], call[3], 0), stop);
        Due.due("spots of " + what, x.roll(call[0], call[1], call[2], call[3], 1), went);
    }

    private static void roll() {
        Due.promise(24);
        Due.sentence("a spot of 8 by 8", () -> {
            PointOrShoot x = new PointOrShoot();
            for (int y = 0; y < 8; y++) {
                rolled(x, new int[] {7 - y, y, 0, 0}, 8 * y + 7 - y, 0);
            }
            noSuch("x", Due.outside(0, 7), -1, at -> x.roll(at, 0, 0, 0, 0));
            noSuch("y", Due.outside(0, 7), -1, at -> x.roll(0, at, 0, 0, 0));
            noSuch("x", Due.outside(0, 7), -1, at -> x.roll(at, 0, 1, 9, 1));
            noSuch("y", Due.outside(0, 7), -1, at -> x.roll(0, at, 3, 9, 1));
        });
        Due.sentence("one way (0 y more, 1 x more, 2 y less, 3 x less)", () -> {
            PointOrShoot x = new PointOrShoot();
            rolled(x, new int[] {3, 3, 0, 1}, 35, 1);
            rolled(x, new int[] {3, 3, 1, 1}, 28, 1);
            rolled(x, new int[] {3, 3, 2, 1}, 19, 1);
            rolled(x, new int[] {3, 3, 3, 1}, 26, 1);
            noSuch("way", Due.outside(0, 3), -1, way -> x.roll(3, 3, way, 1, 0));
        });
        Due.sentence("a push (0 to 9)", () -> {
            PointOrShoot x = new PointOrShoot();
            Due.ground(x, "00000000/08000000/09000000/h0/h0/h0/h0/h0");
            rolled(x, new int[] {0, 1, 1, 9}, 9, 1);
            rolled(x, new int[] {0, 2, 1, 9}, 17, 1);
            noSuch("push", Due.outside(0, 9), -1, push -> x.roll(0, 0, 0, push, 0));
        });
        Due.sentence("NONE: no such what", () -> {
            PointOrShoot x = new PointOrShoot();
            noSuch("what", Due.outside(0, 1), -1, what -> x.roll(0, 0, 0, 1, what));
            noSuch("what, gone", Due.outside(0, 1), -1, what -> x.roll(0, 0, 3, 1, what));
        });
        Due.sentence("off the ground: gone (-2), spots on the ground", () -> {
            PointOrShoot x = new PointOrShoot();
            rolled(x, new int[] {0, 0, 2, 1}, -2, 0);
            rolled(x, new int[] {0, 0, 3, 1}, -2, 0);
            rolled(x, new int[] {7, 7, 0, 1}, -2, 0);
            rolled(x, new int[] {7, 7, 1, 1}, -2, 0);
            rolled(x, new int[] {0, 3, 1, 8}, -2, 7);
            rolled(x, new int[] {3, 0, 0, 9}, -2, 7);
            rolled(x, new int[] {2, 5, 3, 3}, -2, 2);
            rolled(x, new int[] {5, 2, 2, 3}, -2, 2);
        });
        Due.sentence("off the ground: the last spot is on it", () -> {
            PointOrShoot x = new PointOrShoot();
            rolled(x, new int[] {0, 3, 1, 7}, 31, 7);
            rolled(x, new int[] {3, 0, 0, 7}, 59, 7);
            rolled(x, new int[] {2, 5, 3, 2}, 40, 2);
            rolled(x, new int[] {5, 2, 2, 2}, 5, 2);
        });
        Due.sentence("with none (or less) it stops: none at first", () -> {
            PointOrShoot x = new PointOrShoot();
            Due.ground(x, "98765432/h0/h0/h0/h0/h0/h0/h0");
            rolled(x, new int[] {0, 0, 1, 0}, 0, 0);
            rolled(x, new int[] {0, 0, 3, 0}, 0, 0);
        });
        Due.sentence("with none (or less) it stops: none, less", () -> {
            PointOrShoot x = new PointOrShoot();
            Due.ground(x, "02000000/09000000/h0/h0/h0/h0/h0/h0");
            rolled(x, new int[] {0, 0, 1, 1}, 1, 1);
            rolled(x, new int[] {0, 0, 1, 2}, 1, 1);
            rolled(x, new int[] {0, 0, 1, 3}, 1, 1);
            // 4 leaves 1 on the hill; 2 more behind it, 1, 0.
            rolled(x, new int[] {0, 0, 1, 4}, 4, 4);
            rolled(x, new int[] {0, 1, 1, 1}, 9, 1);
        });
        Due.sentence("less by 1, more by the height that it came from less the one where it is", () -> {
            PointOrShoot x = new PointOrShoot();
            Due.ground(x, "98765432/99999990/h0/h0/h0/h0/h0/h0");
            rolled(x, new int[] {0, 0, 1, 1}, -2, 7);
            rolled(x, new int[] {7, 0, 3, 1}, 6, 1);
            rolled(x, new int[] {7, 0, 3, 2}, 6, 1);
            rolled(x, new int[] {7, 0, 3, 3}, 5, 2);
            rolled(x, new int[] {0, 0, 0, 1}, 8, 1);
            rolled(x, new int[] {6, 1, 1, 1}, -2, 1);
            rolled(x, new int[] {6, 1, 0, 1}, -2, 6);
        });
    }

    // ---- promise 25

    private static void laid(PointOrShoot x, int toX, int toY, int y, int push, int stop) {
        Due.due("y near " + toX + ", " + toY, x.lay(toX, toY, 0), y);
        Due.due("push near " + toX + ", " + toY, x.lay(toX, toY, 1), push);
        Due.due("stop near " + toX + ", " + toY, x.lay(toX, toY, 2), stop);
    }

    private static final String DOWN = "76543210";

    private static PointOrShoot noneStays() {
        PointOrShoot x = new PointOrShoot();
        StringBuilder text = new StringBuilder(DOWN);
        for (int y = 1; y < 8; y++) {
            text.append('/').append(DOWN);
        }
        Due.ground(x, text.toString());
        return x;
    }

    private static void lay() {
        Due.promise(25);
        Due.sentence("near a spot of 8 by 8; NONE: no such ones", () -> {
            PointOrShoot x = new PointOrShoot();
            laid(x, 7, 7, 7, 7, 63);
            laid(x, 1, 0, 0, 1, 1);
            noSuch("x", Due.outside(0, 7), -1, at -> x.lay(at, 0, 0));
            noSuch("y", Due.outside(0, 7), -1, at -> x.lay(0, at, 0));
            noSuch("what", Due.outside(0, 2), -1, what -> x.lay(0, 0, what));
        });
        Due.sentence("push (1 to 9): never 0", () -> {
            PointOrShoot x = new PointOrShoot();
            laid(x, 0, 4, 4, 1, 33);
            laid(x, 0, 0, 0, 1, 1);
        });
        Due.sentence("push (1 to 9): 9", () -> {
            PointOrShoot x = new PointOrShoot();
            // Only 9 comes over the hill of 7; it stops on that of 9.
            Due.ground(x, "07000009/09999999/09999999/09999999/09999999/09999999/09999999/09999999");
            laid(x, 7, 0, 0, 9, 7);
        });
        Due.sentence("push (1 to 9): never 10", () -> {
            PointOrShoot x = new PointOrShoot();
            // 10 would come over the hill of 8.
            Due.ground(x, "08000009/09999999/09999999/09999999/09999999/09999999/09999999/09999999");
            laid(x, 7, 0, 0, 1, 1);
        });
        Due.sentence("from x 0 of any y", () -> {
            PointOrShoot x = new PointOrShoot();
            for (int y = 0; y < 8; y++) {
                laid(x, 3, y, y, 3, 8 * y + 3);
            }
        });
        Due.sentence("nearest (squares of both distances together)", () -> {
            PointOrShoot x = new PointOrShoot();
            // ROW 0 lets a ball stop at x 1 alone, ROW 2 at none but 4.
            Due.ground(x, "09999999/76543210/00009999/76543210/76543210/76543210/76543210/76543210");
            // From (3, 0): (1, 0) is 4 off; (1, 2) to (4, 2) are 8, 5, 4, 5 off; the least push of 4 is 1.
            laid(x, 3, 0, 0, 1, 1);
            // From (4, 0): (1, 0) is 9 off, (4, 2) is 4 off.
            laid(x, 4, 0, 2, 4, 20);
            // From (3, 1): (1, 0) is 5 off, (3, 2) is 1 off.
            laid(x, 3, 1, 2, 3, 19);
        });
        Due.sentence("nearest (squares ..): 2 and 2 off is nearer than 3 and 0", () -> {
            PointOrShoot x = new PointOrShoot();
            Due.ground(x, "09999999/76543210/00900000/76543210/76543210/76543210/76543210/76543210");
            laid(x, 4, 0, 2, 2, 18);
        });
        Due.sentence("of like ones the least push", () -> {
            PointOrShoot x = new PointOrShoot();
            // Near (2, 3) lie (2, 2) by push 2 and (2, 4) by push 1.
            Due.ground(x, "h0/h0/00900000/76543210/10900000/h0/h0/h0");
            Due.due("push at y 2", x.roll(0, 2, 1, 2, 0), 18);
            Due.due("push at y 4", x.roll(0, 4, 1, 1, 0), 34);
            laid(x, 2, 3, 4, 1, 34);
        });
        Due.sentence("of like ones .. then y", () -> {
            PointOrShoot x = new PointOrShoot();
            Due.ground(x, "h0/h0/09900000/76543210/09900000/h0/h0/h0");
            laid(x, 1, 3, 2, 1, 17);
            laid(x, 0, 3, 2, 1, 17);
        });
        Due.sentence("-2: none stays on the ground", () -> {
            PointOrShoot x = noneStays();
            for (int what = 0; what < 3; what++) {
                Due.due("what " + what, x.lay(0, 0, what), -2);
                Due.due("what " + what, x.lay(7, 7, what), -2);
            }
        });
        Due.sentence("-2: but one that stays is laid", () -> {
            PointOrShoot x = new PointOrShoot();
            Due.ground(x, DOWN + "/" + DOWN + "/" + DOWN + "/" + DOWN + "/" + DOWN + "/" + DOWN + "/" + DOWN + "/76543219");
            // 1 downhill stays 1 to (6, 7), then 1 less and 8 up.
            laid(x, 0, 0, 7, 1, 63);
        });
        Due.sentence("NONE is told first, then -2", () -> {
            PointOrShoot x = noneStays();
            Due.due("x", x.lay(8, 0, 0), -1);
            Due.due("y", x.lay(0, -1, 1), -1);
            Due.due("what", x.lay(0, 0, 3), -1);
            Due.due("what", x.lay(0, 0, -1), -1);
        });
    }

    // ---- promise 26

    private static PointOrShoot twelve(int sides) {
        PointOrShoot x = new PointOrShoot();
        for (int i = 0; i < 12; i++) {
            Due.due("ball", x.ball(i % sides, 10 + i, 90 - i), i);
        }
        return x;
    }

    private static void ball() {
        Due.promise(26);
        Due.sentence("of a SIDE: NONE: no such ones", () -> {
            PointOrShoot x = new PointOrShoot();
            noSuch("SIDE", Due.outside(0, 1), -1, side -> x.ball(side, 5, 5));
            Due.due("balls", x.count(4), 0);
            Due.due("of 0", x.ball(0, 5, 5), 0);
            Due.due("of 1", x.ball(1, 5, 5), 1);
            Due.due("SIDE of 0", x.count(20), 0);
            Due.due("SIDE of 1", x.count(21), 1);
        });
        Due.sentence("x, y, 0 to 99 each: NONE: no such ones", () -> {
            PointOrShoot x = new PointOrShoot();
            noSuch("x", Due.outside(0, 99), -1, at -> x.ball(0, at, 5));
            noSuch("y", Due.outside(0, 99), -1, at -> x.ball(1, 5, at));
            Due.due("balls", x.count(4), 0);
            int[][] corners = {{0, 0}, {99, 0}, {0, 99}, {99, 99}};
            for (int i = 0; i < 4; i++) {
                Due.due("ball", x.ball(0, corners[i][0], corners[i][1]), i);
                Due.due("place", x.count(40 + i), 100 * corners[i][1] + corners[i][0]);
            }
        });
        Due.sentence("12 at most: NONE: 12 lie", () -> {
            for (int sides = 1; sides <= 2; sides++) {
                PointOrShoot x = twelve(sides);
                Due.due("the 13th of 0", x.ball(0, 1, 1), -1);
                Due.due("the 13th of 1", x.ball(1, 1, 1), -1);
                Due.due("balls", x.count(4), 12);
                Due.due("the place of the last", x.count(51), 7921);
                Due.due("the SIDE of the last", x.count(31), sides - 1);
            }
        });
        Due.sentence("12 lie, and no such place", () -> Due.due("ball", twelve(2).ball(0, 100, 0), -1));
        Due.sentence("12 lie: without one there is room", () -> {
            PointOrShoot x = twelve(2);
            x.gone(0);
            Due.due("the 12th again", x.ball(0, 3, 4), 11);
            Due.due("its place", x.count(51), 403);
            Due.due("the 13th", x.ball(0, 3, 4), -1);
        });
        Due.sentence("two may lie in one place", () -> {
            PointOrShoot x = new PointOrShoot();
            Due.due("one", x.ball(0, 50, 50), 0);
            Due.due("one more", x.ball(0, 50, 50), 1);
        });
    }

    // ---- promise 27

    private static void pig() {
        Due.promise(27);
        Due.sentence("(50, 50 at first)", () -> {
            PointOrShoot x = new PointOrShoot();
            Due.due("place", x.count(5), 5050);
            x.ball(0, 50, 50);
            Due.due("square", x.measured(3), 0);
        });
        Due.sentence("false: no such place", () -> {
            PointOrShoot x = new PointOrShoot();
            x.pig(7, 8);
            for (int at : Due.outside(0, 99)) {
                Due.no("x " + at, x.pig(at, 5));
                Due.no("y " + at, x.pig(5, at));
                Due.no("both " + at, x.pig(at, at));
            }
            Due.due("place", x.count(5), 807);
        });
        Due.sentence("0 to 99 each", () -> {
            PointOrShoot x = new PointOrShoot();
            Due.yes("0, 0", x.pig(0, 0));
            Due.due("place", x.count(5), 0);
            Due.yes("99, 0", x.pig(99, 0));
            Due.due("place", x.count(5), 99);
            Due.yes("0, 99", x.pig(0, 99));
            Due.due("place", x.count(5), 9900);
            Due.yes("99, 99", x.pig(99, 99));
            Due.due("place", x.count(5), 9999);
        });
    }

    // ---- promise 28

    private static void gone() {
        Due.promise(28);
        Due.sentence("false: no such one: none lies", () -> {
            PointOrShoot x = new PointOrShoot();
            Due.no("0", x.gone(0));
            Due.no("-1", x.gone(-1));
            Due.due("balls", x.count(4), 0);
        });
        Due.sentence("false: no such one", () -> {
            PointOrShoot x = twelve(2);
            for (int i : Due.outside(0, 11)) {
                Due.no("ball " + i, x.gone(i));
            }
            Due.due("balls", x.count(4), 12);
            Due.yes("11", x.gone(11));
            Due.no("11 again", x.gone(11));
            Due.yes("0", x.gone(0));
            Due.no("10", x.gone(10));
        });
        Due.sentence("(those behind it have numbers less by 1)", () -> {
            for (int gone = 0; gone < 12; gone++) {
                PointOrShoot x = twelve(2);
                x.gone(gone);
                Due.due("balls", x.count(4), 11);
                for (int i = 0; i < 11; i++) {
                    int was = i < gone ? i : i + 1;
                    Due.due("SIDE of " + i + " without " + gone, x.count(20 + i), was % 2);
                    Due.due("place of " + i + " without " + gone, x.count(40 + i), 100 * (90 - was) + 10 + was);
                }
                Due.due("no 12th", x.count(31), -1);
                Due.due("no 12th place", x.count(51), -1);
            }
        });
        Due.sentence("all are gone, one by one", () -> {
            PointOrShoot x = twelve(2);
            for (int left = 11; left >= 0; left--) {
                Due.yes("the first", x.gone(0));
                Due.due("balls", x.count(4), left);
            }
            Due.no("none is left", x.gone(0));
            Due.due("none", x.measured(2), -2);
        });
    }

    // ---- promise 29

    private static void measures(PointOrShoot x, int whose, int points, int ball, int square) {
        Due.due("whose is nearest", x.measured(0), whose);
        Due.due("POINTS", x.measured(1), points);
        Due.due("the nearest ball", x.measured(2), ball);
        Due.due("its square", x.measured(3), square);
    }

    private static PointOrShoot field(int... balls) {
        PointOrShoot x = new PointOrShoot();
        for (int i = 0; i + 2 < balls.length; i += 3) {
            x.ball(balls[i], balls[i + 1], balls[i + 2]);
        }
        return x;
    }

    private static void measured() {
        Due.promise(29);
        Due.sentence("-2: nobody's; -2: none (square of none: -2)", () -> measures(new PointOrShoot(), -2, 0, -2, -2));
        Due.sentence("-100: no such what", () -> {
            noSuch("what", Due.outside(0, 3), -100, new PointOrShoot()::measured);
            noSuch("what", Due.outside(0, 3), -100, field(0, 1, 1)::measured);
        });
        Due.sentence("balls of one SIDE alone: all are POINTS", () -> {
            measures(field(0, 0, 0, 0, 99, 99, 0, 50, 51), 0, 3, 2, 1);
            measures(field(1, 0, 0), 1, -1, 0, 5000);
            PointOrShoot x = field(1, 99, 99, 1, 0, 0);
            x.pig(0, 0);
            measures(x, 1, -2, 1, 0);
            x.gone(1);
            // As far off as can be.
            measures(x, 1, -1, 0, 99 * 99 * 2);
            x.ball(0, 98, 99);
            measures(x, 0, 1, 1, 98 * 98 + 99 * 99);
        });
        Due.sentence("-2: nobody's, alike: both nearest alike: none", () -> {
            measures(field(0, 50, 51, 1, 51, 50), -2, 0, 0, 1);
            measures(field(1, 50, 45, 0, 53, 54, 1, 50, 60, 0, 50, 60), -2, 0, 0, 25);
            measures(field(0, 50, 50, 1, 50, 50), -2, 0, 0, 0);
        });
        Due.sentence("as near: it is nobody's POINT", () -> {
            measures(field(0, 50, 51, 0, 50, 52, 0, 48, 50, 1, 52, 50), 0, 1, 0, 1);
            measures(field(1, 50, 51, 1, 50, 52, 0, 48, 50), 1, -1, 0, 1);
            measures(field(1, 53, 54, 0, 50, 55, 1, 50, 54), 1, -1, 2, 16);
        });
        Due.sentence("nearer than the nearest of the other one", () -> {
            measures(field(0, 50, 51, 0, 50, 52, 1, 50, 53, 0, 50, 54), 0, 2, 0, 1);
            measures(field(0, 50, 54, 1, 50, 53, 1, 50, 52, 1, 50, 55), 1, -2, 2, 4);
        });
        Due.sentence("the nearest ball (of like ones the first)", () -> {
            measures(field(0, 60, 50, 1, 50, 53, 1, 53, 50, 1, 47, 50), 1, -3, 1, 9);
            measures(field(0, 40, 50, 0, 60, 50), 0, 2, 0, 100);
            measures(field(1, 60, 50, 0, 40, 50), -2, 0, 0, 100);
        });
        Due.sentence("squares from the pig", () -> {
            PointOrShoot x = field(0, 0, 0, 1, 99, 99);
            x.pig(99, 0);
            measures(x, -2, 0, 0, 99 * 99);
            x.pig(99, 1);
            measures(x, 1, -1, 1, 98 * 98);
            x.pig(0, 99);
            x.gone(0);
            measures(x, 1, -1, 0, 99 * 99);
        });
        Due.sentence("12 of one SIDE", () -> {
            PointOrShoot x = new PointOrShoot();
            for (int i = 0; i < 12; i++) {
                x.ball(1, 50, 61 - i);
            }
            measures(x, 1, -12, 11, 0);
        });
    }

    // ---- promise 30

    private static void toShoot() {
        Due.promise(30);
        Due.sentence("NONE: no such SIDE", () -> noSuch("SIDE", Due.outside(0, 1), -1, field(0, 1, 1, 1, 2, 2)::toShoot));
        Due.sentence("-2: the other one has none", () -> {
            Due.due("no ball for 0", new PointOrShoot().toShoot(0), -2);
            Due.due("no ball for 1", new PointOrShoot().toShoot(1), -2);
            Due.due("its own alone, 0", field(0, 1, 1, 0, 2, 2).toShoot(0), -2);
            Due.due("its own alone, 1", field(1, 1, 1).toShoot(1), -2);
        });
        Due.sentence("NONE is told first, then -2", () -> {
            noSuch("SIDE", Due.outside(0, 1), -1, new PointOrShoot()::toShoot);
            noSuch("SIDE", Due.outside(0, 1), -1, field(0, 1, 1)::toShoot);
        });
        Due.sentence("that ball without which its POINTS less the other one's are most", () -> {
            // Without ball 3 SIDE 0 has 2, else SIDE 1 has 1.
            PointOrShoot x = field(0, 50, 52, 1, 50, 54, 0, 50, 53, 1, 50, 51);
            Due.due("for 0", x.toShoot(0), 3);
            // Without ball 0 SIDE 1 has 1 still; without ball 2 as well.
            Due.due("for 1", x.toShoot(1), 0);
            x.ball(1, 50, 50);
            Due.due("for 0: it has none without either; less of the other one's", x.toShoot(0), 3);
            Due.due("for 1: without ball 0 two, else two", x.toShoot(1), 0);
        });
        Due.sentence("less the other one's: it has no POINT itself", () -> {
            // SIDE 1 has three, two without any of the three; ball 0 is behind.
            PointOrShoot x = field(1, 50, 60, 1, 50, 51, 0, 50, 55, 1, 50, 52, 1, 50, 53);
            Due.due("for 0", x.toShoot(0), 1);
        });
        Due.sentence("of like ones the first", () -> {
            Due.due("for 0", field(1, 50, 51, 1, 51, 50).toShoot(0), 0);
            Due.due("for 1", field(1, 50, 60, 0, 50, 51, 0, 51, 50).toShoot(1), 1);
            Due.due("nothing matters", field(0, 50, 50, 1, 50, 60, 1, 50, 60).toShoot(0), 1);
        });
        Due.sentence("the only ball of the other one", () -> {
            Due.due("for 0", field(1, 0, 0).toShoot(0), 0);
            Due.due("for 1", field(1, 50, 50, 0, 99, 99).toShoot(1), 1);
        });
        Due.sentence("the pig in a corner: no more balls than there are", () -> {
            PointOrShoot x = field(1, 20, 0, 1, 1, 0, 1, 2, 0, 0, 10, 0);
            x.pig(0, 0);
            Due.due("for 0", x.toShoot(0), 1);
            PointOrShoot y = field(0, 20, 0, 0, 1, 0, 0, 2, 0, 1, 10, 0);
            y.pig(0, 0);
            Due.due("for 1", y.toShoot(1), 1);
        });
        Due.sentence("no ball is gone by it", () -> {
            PointOrShoot x = field(0, 50, 52, 1, 50, 51);
            x.toShoot(0);
            x.toShoot(1);
            Due.due("balls", x.count(4), 2);
            measures(x, 1, -1, 1, 1);
        });
    }

    // ---- promise 31

    private static void seed() {
        Due.promise(31);
        Due.sentence("THE SEED (0 to 65535; X, too)", () -> {
            PointOrShoot x = new PointOrShoot();
            for (int seed : new int[] {0, 1, 32767, 32768, 65534, 65535}) {
                Due.yes("seed " + seed, x.seed(seed));
                Due.due("X", x.count(3), seed);
                x.drawn(-1, -1, 10000, 0, 1);
                Due.due("X behind a THROW", x.count(3), (int) ((25173L * seed + 13849) % 65536));
            }
        });
        Due.sentence("false: no such number", () -> {
            PointOrShoot x = new PointOrShoot();
            x.seed(77);
            for (int seed : Due.outside(0, 65535)) {
                Due.no("seed " + seed, x.seed(seed));
            }
            Due.due("X", x.count(3), 77);
        });
        Due.sentence("X, too: it stands in place of what was drawn; the LOG stays", () -> {
            PointOrShoot x = new PointOrShoot();
            x.drawn(-1, -1, 10000, 0, 1);
            x.seed(1);
            Due.due("X", x.count(3), 1);
            Due.due("the LOG", x.log(0), 1);
        });
    }

    // ---- promise 32

    private static void keep() {
        Due.promise(32);
        Due.sentence("KEPT: shots in THE BOOK: none", () -> Due.due("keep", new PointOrShoot().keep(), 0));
        Due.sentence("KEPT: shots in THE BOOK: all 60", () -> {
            PointOrShoot x = full();
            Due.due("keep", x.keep(), 60);
            x.undo();
            Due.due("shots", x.book(0), 60);
            Due.due("hits from 8", x.book(28), 4);
        });
        Due.sentence("KEPT: balls: all 12", () -> {
            PointOrShoot x = twelve(2);
            x.keep();
            for (int i = 0; i < 12; i++) {
                x.gone(0);
            }
            x.undo();
            Due.due("balls", x.count(4), 12);
            Due.due("SIDE", x.count(31), 1);
            Due.due("place", x.count(51), 7921);
        });
        Due.sentence("KEPT: none of it is changed by what comes", () -> {
            PointOrShoot x = new PointOrShoot();
            x.ball(0, 1, 2);
            x.shot(6, true);
            x.keep();
            x.gone(0);
            x.ball(1, 3, 4);
            x.ball(1, 5, 6);
            x.shot(7, true);
            x.pig(9, 9);
            x.undo();
            Due.due("balls", x.count(4), 1);
            Due.due("SIDE", x.count(20), 0);
            Due.due("place", x.count(40), 201);
            Due.due("hits", x.book(1), 1);
            Due.due("pig", x.count(5), 5050);
        });
        Due.sentence("the LOG stays", () -> {
            PointOrShoot x = new PointOrShoot();
            x.drawn(-1, -1, 10000, 0, 1);
            x.keep();
            Due.due("THROWS", x.log(0), 1);
        });
    }

    // ---- promise 33

    private static void undo() {
        Due.promise(33);
        Due.sentence("false: none was KEPT", () -> {
            PointOrShoot x = new PointOrShoot();
            x.far(6);
            x.seed(9);
            x.shot(6, true);
            x.ball(0, 1, 1);
            x.pig(2, 2);
            x.drawn(-1, -1, 0, 0, 1);
            Due.no("undo", x.undo());
            Due.due("FAR", x.count(0), 6);
            Due.due("X", x.count(3), 9);
            Due.due("balls", x.count(4), 1);
            Due.due("pig", x.count(5), 202);
            Due.due("shots", x.book(0), 1);
            Due.due("the LOG", x.log(0), 0);
        });
        Due.sentence("UNDONE (the LOG falls)", () -> {
            PointOrShoot x = new PointOrShoot();
            x.drawn(-1, -1, 10000, 0, 1);
            x.keep();
            Due.yes("undo", x.undo());
            Due.due("the LOG", x.log(0), -1);
            Due.due("WORST", x.wrong(0, 1), -1);
        });
        Due.sentence("as they were KEPT last", () -> {
            PointOrShoot x = new PointOrShoot();
            x.far(6);
            x.keep();
            x.far(7);
            x.shot(6, true);
            x.keep();
            x.far(8);
            x.shot(6, true);
            Due.yes("undo", x.undo());
            Due.due("FAR", x.count(0), 7);
            Due.due("shots", x.book(0), 1);
        });
        Due.sentence("as they were KEPT last: more than once", () -> {
            PointOrShoot x = new PointOrShoot();
            x.pig(1, 2);
            x.keep();
            for (int i = 0; i < 3; i++) {
                x.pig(40 + i, 3);
                x.ball(0, 1, i);
                Due.yes("undo", x.undo());
                Due.due("pig", x.count(5), 201);
                Due.due("balls", x.count(4), 0);
            }
        });
        Due.sentence("KEPT: FAR, THE BOOK, balls, pig, X", () -> {
            PointOrShoot x = Due.by("af(f<10);a1(i=i)");
            x.far(9);
            x.shot(7, true);
            x.shot(8, false);
            x.ball(1, 3, 4);
            x.pig(5, 6);
            x.seed(65535);
            x.keep();
            x.far(6);
            x.shot(9, true);
            x.gone(0);
            x.pig(0, 0);
            x.drawn(-1, -1, 10000, 0, 1);
            Due.yes("undo", x.undo());
            Due.due("FAR", x.count(0), 9);
            Due.due("a chance by FAR", x.chance(10000, 0, 1, 1, 0), 90);
            int[] whats = {0, 1, 17, 18, 19, 27, 28, 29};
            int[] due = {2, 1, 1, 1, 0, 1, 0, 0};
            for (int i = 0; i < whats.length; i++) {
                Due.due("book " + whats[i], x.book(whats[i]), due[i]);
            }
            Due.due("balls", x.count(4), 1);
            Due.due("place", x.count(40), 403);
            Due.due("pig", x.count(5), 605);
            Due.due("X", x.count(3), 65535);
        });
        Due.sentence("all else stays: THE LAW, RULES, THE GROUND, the tape", () -> {
            PointOrShoot x = new PointOrShoot();
            x.keep();
            Due.law(x, "a3(i=i);b1(i=i)");
            Due.rule(x, 2, "r2(i=i)");
            Due.ground(x, "h0/h0/h0/h0/h0/h0/h0/h6");
            x.feed(0, 0, 0, 0, 0);
            Due.yes("undo", x.undo());
            Due.due("CLAUSES", x.count(1), 2);
            Due.due("a chance", x.chance(10000, 0, 1, 1, 0), 30);
            Due.due("CLAUSES of RULE 2", x.count(12), 1);
            Due.due("a height", x.count(163), 6);
            Due.due("the tape", x.count(2), 20);
        });
    }

    // ---- promise 34

    private static final String HEIGHTS = "12345678/h9/h0/h0/h0/h0/h0/h0";

    private static void check() {
        Due.promise(34);
        Due.sentence("-2: no such n (the tape stays)", () -> {
            PointOrShoot x = new PointOrShoot();
            Due.ground(x, HEIGHTS);
            x.feed(1, 2, 3, 4, 5);
            x.feed(6, 7, 8, 9, 9);
            for (int n : Due.outside(0, 8)) {
                Due.due("check " + n, x.check(n), -2);
            }
            Due.due("check 10", x.check(10), -2);
            Due.due("the tape", x.count(2), 40);
            Due.due("check 8 by that tape", x.check(8), -1);
        });
        Due.sentence("-2: it has not so many (the tape stays)", () -> {
            PointOrShoot x = new PointOrShoot();
            Due.ground(x, HEIGHTS);
            for (int n = 1; n <= 8; n++) {
                Due.due("check " + n + " of an empty tape", x.check(n), -2);
            }
            x.feed(1, 2, 3, 4, 5);
            for (int n = 6; n <= 8; n++) {
                Due.due("check " + n + " of 5", x.check(n), -2);
            }
            Due.due("the tape", x.count(2), 20);
            Due.due("check 5 of 5", x.check(5), -1);
        });
        Due.sentence("0 to 8: 0", () -> {
            PointOrShoot x = new PointOrShoot();
            Due.due("of an empty tape", x.check(0), -1);
            x.feed(9, 9, 9, 9, 9);
            Due.due("of wrong numbers", x.check(0), -1);
            Due.due("the tape", x.count(2), 0);
        });
        Due.sentence("0 to 8: 8", () -> {
            PointOrShoot x = new PointOrShoot();
            Due.ground(x, HEIGHTS);
            x.feed(1, 2, 3, 4, 5);
            x.feed(6, 7, 8, 0, 0);
            Due.due("right", x.check(8), -1);
            x.feed(1, 2, 3, 4, 5);
            x.feed(6, 7, 9, 0, 0);
            Due.due("the eighth", x.check(8), 7);
        });
        Due.sentence("(empty then): right or not", () -> {
            PointOrShoot x = new PointOrShoot();
            for (int i = 0; i < 13; i++) {
                x.feed(0, 0, 0, 0, 0);
            }
            Due.due("right", x.check(1), -1);
            Due.due("the tape", x.count(2), 0);
            x.feed(0, 0, 1, 0, 0);
            x.feed(0, 0, 1, 0, 0);
            Due.due("not so", x.check(5), 2);
            Due.due("the tape", x.count(2), 0);
        });
        Due.sentence("by the first n numbers: no more", () -> {
            PointOrShoot x = new PointOrShoot();
            Due.ground(x, HEIGHTS);
            for (int n = 0; n < 5; n++) {
                x.feed(n > 0 ? 1 : 0, n > 1 ? 2 : 0, n > 2 ? 3 : 0, n > 3 ? 4 : 0, 0);
                Due.due("check " + n, x.check(n), -1);
                x.feed(n > 0 ? 1 : 0, n > 1 ? 2 : 0, n > 2 ? 3 : 0, n > 3 ? 4 : 0, 0);
                Due.due("check " + (n + 1), x.check(n + 1), n);
            }
        });
        Due.sentence("else the place of the first number that is not so", () -> {
            PointOrShoot x = new PointOrShoot();
            Due.ground(x, HEIGHTS);
            x.feed(1, 0, 0, 0, 0);
            Due.due("four of five", x.check(5), 1);
            x.feed(0, 2, 3, 4, 5);
            Due.due("the first alone", x.check(5), 0);
            x.feed(1, 2, 3, 4, 0);
            Due.due("the last alone", x.check(5), 4);
        });
        Due.sentence("(8 numbers; four bytes each): 32 bits", () -> {
            PointOrShoot x = new PointOrShoot();
            Due.ground(x, HEIGHTS);
            int[] wrongOnes = {1 + 256, 1 + 65536, 1 + (1 << 24), 1 + (1 << 31), 1 << 8, 1 << 16, 1 << 24, -1, 1 - 256};
            for (int number : wrongOnes) {
                x.feed(number, 2, 3, 4, 5);
                Due.due("with " + number, x.check(1), 0);
            }
            x.feed(1, 2, 3, 4, 5);
            Due.due("with 1", x.check(1), -1);
        });
        Due.sentence("heights of the first ROW", () -> {
            PointOrShoot x = new PointOrShoot();
            Due.ground(x, "h0/12345678/h9/h9/h9/h9/h9/h9");
            x.feed(0, 0, 0, 0, 0);
            x.feed(0, 0, 0, 9, 9);
            Due.due("check", x.check(8), -1);
        });
    }

    // ---- promise 35

    private static void count() {
        Due.promise(35);
        Due.sentence("of a new object; NONE for others", () -> {
            PointOrShoot x = new PointOrShoot();
            int[] first = {8, 0, 0, 1, 0, 5050, -1, -1, -1, -1, 0, 0, 0, 0};
            for (int what = -20; what <= 220; what++) {
                int due = what >= 100 && what < 164 ? 0 : what >= 0 && what < first.length ? first[what] : -1;
                Due.due("count " + what, x.count(what), due);
            }
        });
        Due.sentence("NONE for others: far off", () -> {
            PointOrShoot x = twelve(2);
            noSuch("what", Due.outside(0, 163), -1, x::count);
        });
        Due.sentence("20 + i the SIDE, 40 + i the place: of balls that lie alone", () -> {
            PointOrShoot x = new PointOrShoot();
            for (int balls = 0; balls <= 12; balls++) {
                Due.due("SIDE behind the last of " + balls, x.count(20 + balls), -1);
                Due.due("place behind the last of " + balls, x.count(40 + balls), -1);
                x.ball(1, 99, 98);
                if (balls < 12) {
                    Due.due("SIDE of the last", x.count(20 + balls), 1);
                    Due.due("place of the last", x.count(40 + balls), 9899);
                }
            }
            for (int what = 32; what < 40; what++) {
                Due.due("count " + what, x.count(what), -1);
            }
        });
        Due.sentence("10 + k CLAUSES of RULE k (0: none)", () -> {
            PointOrShoot x = new PointOrShoot();
            Due.rule(x, 3, "r1(i=i);r1(i=i);r1(i=i)");
            int[] due = {-1, 0, 0, 0, 3, -1};
            for (int i = 0; i < due.length; i++) {
                Due.due("count " + (9 + i), x.count(9 + i), due[i]);
            }
        });
        Due.sentence("1 CLAUSES of THE LAW: up to 16", () -> {
            StringBuilder text = new StringBuilder("a1(i=i)");
            PointOrShoot x = new PointOrShoot();
            for (int many = 1; many <= 16; many++) {
                Due.law(x, text.toString());
                Due.due("CLAUSES", x.count(1), many);
                text.append(";h1(i=i)");
            }
        });
        Due.sentence("2 bytes of the tape: 0 to 260", () -> {
            PointOrShoot x = new PointOrShoot();
            for (int i = 0; i <= 13; i++) {
                Due.due("bytes", x.count(2), 20 * i);
                x.feed(1, 1, 1, 1, 1);
            }
            Due.due("bytes", x.count(2), 260);
        });
        Due.sentence("100 + s the height of spot s: 0 to 63", () -> {
            PointOrShoot x = new PointOrShoot();
            Due.ground(x, "5g0/h0/h0/h0/h0/h0/h0/g06");
            Due.due("99", x.count(99), -1);
            Due.due("100", x.count(100), 5);
            Due.due("101", x.count(101), 0);
            Due.due("162", x.count(162), 0);
            Due.due("163", x.count(163), 6);
            Due.due("164", x.count(164), -1);
        });
        Due.sentence("5 the pig (100 y and x)", () -> {
            PointOrShoot x = new PointOrShoot();
            x.pig(99, 0);
            Due.due("pig", x.count(5), 99);
            x.pig(0, 99);
            Due.due("pig", x.count(5), 9900);
        });
    }
}
