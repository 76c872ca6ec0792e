/** For each promise: ordinary calls, the edges that the document names, and wrong calls, worked out by hand. */
public final class PromiseTests {
    private static final long LONG_REFUSALS = 4000000000000000000L;

    public static void main(String[] args) {
        newObject();
        letter();
        officeTold();
        officeFaultsOfKindOne();
        officeFaultsOfKindTwo();
        officeEdges();
        ball();
        crumple();
        fly();
        throwIt();
        pass();
        clearBin();
        good();
        best();
        off();
        when();
        crumpled();
        fills();
        whose();
        inRow();
        soMany();
        farthest();
        row();
        judge();
        lots();
        imageAndOn();
        count();
        Due.end("PromiseTests");
    }

    private static void counts(PaperInBin x, String of, int... want) {
        for (int what = 0; what < want.length; what++) {
            Due.is(of + ": count(" + what + ")", x.count(what), want[what]);
        }
    }

    // Promise 1
    private static void newObject() {
        PaperInBin x = new PaperInBin();
        counts(x, "new", 0, 12, 0, 0, 0, 0, 40, 40, 0, 0);
        for (int what = 10; what <= 17; what++) {
            Due.is("new: count(" + what + ")", x.count(what), what == 10 || what == 17 ? -9 : 0);
        }
        Due.is("new: ball(0, 0)", x.ball(0, 0), -1);
        Due.is("new: on()", x.on(), -3);
        Due.is("new: judge()", x.judge(), -9);
        Due.is("one object is not another", new PaperInBin().count(13), 0);
    }

    // Promise 2
    private static void letter() {
        PaperInBin x = new PaperInBin();
        Due.is("letter(0)", x.letter(0), 1);
        Due.is("letter(255)", x.letter(255), 2);
        Due.is("letter(-1)", x.letter(-1), -4);
        Due.is("letter(256)", x.letter(256), -6);
        Due.is("letter(least)", x.letter(Integer.MIN_VALUE), -4);
        Due.is("letter(greatest)", x.letter(Integer.MAX_VALUE), -6);
        Due.is("letters", x.count(9), 2);
        for (int i = 3; i <= 80; i++) {
            Due.is("letter " + i, x.letter('p'), i);
        }
        Due.is("letter 81", x.letter('p'), -6);
        Due.is("letter 81, below", x.letter(-1), -4);
        Due.is("letters", x.count(9), 80);
        Due.is("-4", x.count(14), 3);
        Due.is("-6", x.count(16), 3);
        Due.is("office()", x.office(), -1000);
        Due.is("letters", x.count(9), 0);
        Due.is("letter(112)", x.letter('p'), 1);
    }

    // Promise 3
    private static void officeTold() {
        PaperInBin x = new PaperInBin();
        Due.is("tell", Due.tell(x, "w60;b40,59;c10;h9;f-39;i7;pw51;"), 7);
        counts(x, "told", 1, 40, 7, 0, 0, 0, 60, 10, 0, 0);
        Due.is("puff -3 by half", x.ball(0, 5), 9);
        Due.is("tell more", Due.tell(x, "f+21;pk90;"), 2);
        counts(x, "told more", 2, 40, 7, 0, 0, 0, 60, 10, 0, 0);
        Due.is("the last counts", Due.tell(x, "i3;i4;i5;"), 3);
        Due.is("fill", x.count(2), 5);
        Due.is("numbers with 0 ahead", Due.tell(x, "b01,11;w05;"), 2);
        counts(x, "0 ahead", 2, 1, 5, 0, 0, 0, 5, 10, 0, 0);
        Due.is("of one digit", Due.tell(x, "b3,23;w5;"), 2);
        counts(x, "of one digit", 2, 3, 5, 0, 0, 0, 5, 10, 0, 0);
        Due.is("f-01 and f+01", Due.tell(x, "f-01;f+01;"), 2);
        Due.is("no puff", x.ball(0, 5), 10);
        Due.is("26 statements", Due.tell(x, "h1;h1;h1;h1;h1;h1;h1;h1;h1;h1;h1;h1;h1;h1;h1;h1;h1;h1;h1;h1;h1;h1;h1;h1;h1;h1;"),
                26);
        Due.is("80 letters", Due.tell(x, "w60;w60;w60;w60;w60;w60;w60;w60;w60;w60;w60;w60;w60;w60;w60;w60;w60;w60;w60;w61;"),
                -2076);
        Due.is("no letter stays", x.office(), -1000);
    }

    private static void fault(String text, int want) {
        PaperInBin x = Due.office("pb52;");
        Due.is("office() of " + text, Due.tell(x, text), want);
        counts(x, text, 1, 12, 0, 0, 0, 0, 40, 40, 0, 0);
        for (int what = 11; what <= 16; what++) {
            Due.is(text + ": count(" + what + ")", x.count(what), 0);
        }
        Due.is(text + ": fly", x.fly(0, 3, 1, 1), 12);
    }

    private static void officeFaultsOfKindOne() {
        fault("", -1000);
        fault(";", -1000);
        fault("x1;", -1000);
        fault("h1;;", -1003);
        fault("h1;H1;", -1003);
        fault("h1", -1002);
        fault("h", -1001);
        fault("h1;b", -1004);
        fault("hx;", -1001);
        fault("h12;", -1002);
        fault("i;", -1001);
        fault("i10;", -1002);
        fault("w;", -1001);
        fault("w4", -1002);
        fault("w45", -1003);
        fault("w456;", -1003);
        fault("w4,", -1002);
        fault("c;", -1001);
        fault("c123;", -1003);
        fault("b,11;", -1001);
        fault("b111,11;", -1003);
        fault("b11;", -1003);
        fault("b1;", -1002);
        fault("b1,;", -1003);
        fault("b1,1;", -1004);
        fault("b1,111;", -1005);
        fault("b1,11", -1005);
        fault("b-1,11;", -1001);
        fault("f11;", -1001);
        fault("f;", -1001);
        fault("f+;", -1002);
        fault("f+1;", -1003);
        fault("f+1", -1003);
        fault("f*11;", -1001);
        fault("f+111;", -1004);
        fault("p;", -1001);
        fault("px11;", -1001);
        fault("pP11;", -1001);
        fault("pp;", -1002);
        fault("pp1;", -1003);
        fault("pp111;", -1004);
        fault("pp11", -1004);
        fault("h1;h2;h3", -1008);
        fault("w4;h", -1004);
        fault("w4;x", -1003);
        fault("h1; h2;", -1003);
        fault("h/;", -1001);
        fault("h:;", -1001);
        fault("h" + (char) 0 + ";", -1001);
        fault("h1" + (char) 255, -1002);
    }

    private static void officeFaultsOfKindTwo() {
        fault("b0,11;", -2000);
        fault("b41,11;", -2000);
        fault("b1,01;", -2000);
        fault("b1,61;", -2000);
        fault("b1,10;", -2000);
        fault("b39,21;", -2000);
        fault("b40,11;", -2000);
        fault("h2;w4;", -2003);
        fault("w61;", -2000);
        fault("w13;", -2000);
        fault("b1,11;w4;", -2006);
        fault("c9;", -2000);
        fault("c61;", -2000);
        fault("c00;", -2000);
        fault("f+41;", -2000);
        fault("f-41;", -2000);
        fault("f+10;", -2000);
        fault("pp01;", -2000);
        fault("h1;pk00;", -2003);
        fault("pp11;pp11;pp11;pp11;pp11;h1;", -2020);
        fault("w13;b1,11;", -2000);
        fault("b1,11;w5;b5,11;", -2009);
        fault("h1;i2;w4;c9;", -2006);
    }

    private static void officeEdges() {
        Due.office("w60;b40,59;");
        Due.office("b38,21;");
        Due.office("b39,11;");
        Due.office("w14;");
        Due.office("b1,11;w5;");
        Due.office("b1,41;w5;");
        Due.office("b4,11;w5;b1,41;");
        Due.office("c10;c60;h0;h9;i0;i9;f-31;f+39;");
        Due.office("pp10;pb99;pw10;ps99;pl11;");
        PaperInBin x = Due.office("pp11;pp11;pp11;pp11;");
        Due.is("one too many", Due.tell(x, "pp11;pp11;"), -2005);
        Due.is("none of them came", x.count(0), 4);
        Due.is("the fifth", Due.tell(x, "pk95;"), 1);
        Due.is("the sixth", Due.tell(x, "pk95;"), -2000);
        Due.is("balls", x.count(0), 5);
        Due.is("as they come", x.ball(4, 0), 5);
    }

    private static void ballIs(PaperInBin x, int ball, int... want) {
        for (int what = 0; what < 6; what++) {
            Due.is("ball(" + ball + ", " + what + ")", x.ball(ball, what), want[what]);
        }
    }

    // Promise 4
    private static void ball() {
        PaperInBin x = Due.office("f+31;pp94;pb90;pw98;ps98;pl95;");
        ballIs(x, 0, 0, 9, 4, 2, 1, 13);
        ballIs(x, 1, 1, 9, 0, 1, 1, 13);
        ballIs(x, 2, 2, 9, 8, 0, 2, 11);
        ballIs(x, 3, 3, 9, 8, 2, 1, 16);
        ballIs(x, 4, 4, 9, 5, 4, 1, 16);
        x = Due.office("f-32;pp29;pb69;pw34;ps24;pk90;");
        ballIs(x, 0, 0, 2, 9, 0, 1, 7);
        ballIs(x, 1, 1, 6, 9, 0, 1, 7);
        ballIs(x, 2, 2, 3, 4, 0, 2, 9);
        ballIs(x, 3, 3, 2, 4, 1, 1, 4);
        ballIs(x, 4, 5, 9, 0, 0, 3, 10);
        Due.is("ball(5, 0)", x.ball(5, 0), -1);
        Due.is("ball(-1, 0)", x.ball(-1, 0), -1);
        Due.is("ball(5, 9)", x.ball(5, 9), -1);
        Due.is("ball(0, 6)", x.ball(0, 6), -2);
        Due.is("ball(0, -1)", x.ball(0, -1), -2);
        Due.is("ball(greatest, 0)", x.ball(Integer.MAX_VALUE, 0), -1);
        Due.is("-1", x.count(11), 4);
        Due.is("-2", x.count(12), 2);
    }

    // Promise 5
    private static void crumple() {
        PaperInBin x = Due.office("pp92;pp93;");
        Due.is("crumple", x.crumple(1, 9), 3);
        Due.is("tight", x.ball(1, 2), 9);
        Due.is("drag", x.ball(1, 3), 1);
        Due.is("the other", x.ball(0, 2), 2);
        Due.is("crumple", x.crumple(1, 0), 9);
        Due.is("drag", x.ball(1, 3), 3);
        Due.is("below", x.crumple(1, -1), -4);
        Due.is("above", x.crumple(1, 10), -6);
        Due.is("nobody", x.crumple(2, -1), -1);
        Due.is("nobody", x.crumple(-1, 10), -1);
        Due.is("tight", x.ball(1, 2), 0);
        Due.is("-1", x.count(11), 2);
    }

    // Promise 6
    private static void fly() {
        PaperInBin x = Due.office("pp11;");
        Due.flies("in", x, 0, 3, 1, 0, 12, 4, 6, 0);
        counts(x, "in mind", 1, 12, 0, 0, 0, 0, 40, 40, 0, 0);
        Due.flies("least", x, 0, 1, -5, 1, 1, 1, 5, 0);
        // heights 20 34 47 -> 33, rise -13 - 1, 19 4 -12; cells by 9 to 36, 45 -> 35, pace -4, 31
        Due.flies("most", x, 0, 9, 15, 2, 31, 6, 34, 3);
        Due.is("nobody", x.fly(1, 0, 99, 9), -1);
        Due.is("nobody", x.fly(-1, 1, 1, 0), -1);
        Due.is("pace below", x.fly(0, 0, 16, 9), -4);
        Due.is("rise below", x.fly(0, 10, -6, 9), -4);
        Due.is("pace above", x.fly(0, 10, 15, 9), -6);
        Due.is("rise above", x.fly(0, 9, 16, 0), -6);
        Due.is("other", x.fly(0, 9, 15, 5), -2);
        Due.is("other", x.fly(0, 9, 15, -1), -2);
        Due.is("far off", x.fly(0, Integer.MAX_VALUE, Integer.MAX_VALUE, 0), -6);
        Due.is("-1", x.count(11), 2);
        Due.is("-2", x.count(12), 2);
        Due.is("-4", x.count(14), 2);
        Due.is("-6", x.count(16), 3);
    }

    // Promise 7
    private static void throwIt() {
        PaperInBin x = Due.office("pp11;i8;");
        Due.is("long", x.throwIt(0, 3, 0), 2);
        counts(x, "long", 1, 12, 8, 1, 0, 1, 40, 40, 0, 0);
        Due.is("short", x.throwIt(0, 1, 0), 1);
        Due.is("in", x.throwIt(0, 3, 1), 0);
        counts(x, "in", 1, 12, 9, 3, 1, 3, 40, 40, 0, 0);
        Due.is("on top", x.throwIt(0, 3, 1), 3);
        counts(x, "on top", 1, 12, 9, 4, 1, 4, 40, 40, 0, 0);
        Due.is("nobody", x.throwIt(1, 0, 16), -1);
        Due.is("below", x.throwIt(0, 0, 16), -4);
        Due.is("below", x.throwIt(0, 10, -6), -4);
        Due.is("above", x.throwIt(0, 10, 0), -6);
        Due.is("above", x.throwIt(0, 1, 16), -6);
        counts(x, "refused", 1, 12, 9, 4, 1, 4, 40, 40, 0, 0);
        // the FAN of this SECOND: PERIOD 3, pace 1 by 3 only in SECONDS 0 and 2 (from its fourth step)
        x = Due.office("pp11;f+33;");
        Due.is("second 0", x.throwIt(0, 1, 0), 0);
        Due.is("second 1", x.throwIt(0, 1, 0), 1);
        Due.is("second 2", x.throwIt(0, 1, 0), 1);
        Due.is("second 3", x.throwIt(0, 1, 0), 0);
    }

    // Promise 8
    private static void pass() {
        PaperInBin x = Due.office("pp11;");
        Due.is("pass(1)", x.pass(1), 1);
        Due.is("pass(99)", x.pass(99), 100);
        Due.is("pass(0)", x.pass(0), -4);
        Due.is("pass(-5)", x.pass(-5), -4);
        Due.is("pass(100)", x.pass(100), -6);
        Due.is("pass(greatest)", x.pass(Integer.MAX_VALUE), -6);
        Due.passTo(x, 9989);
        Due.is("above", x.pass(11), -6);
        Due.is("second", x.count(3), 9989);
        Due.is("pass(9)", x.pass(9), 9998);
        Due.is("last throw", x.throwIt(0, 3, 1), 0);
        Due.is("at the end", x.throwIt(0, 3, 1), -6);
        Due.is("at the end", x.throwIt(0, 0, 1), -4);
        Due.is("pass(1)", x.pass(1), -6);
        counts(x, "at the end", 1, 12, 1, 9999, 1, 1, 40, 40, 0, 0);
        Due.is("a flight still", x.fly(0, 3, 1, 0), 0);
        Due.is("when still", x.when(0, 3, 1), 0);
        Due.is("in mind still", x.row(306), 1);
        Due.is("in mind still", x.judge(), -9);
        x = Due.office("pp11;");
        Due.passTo(x, 9990);
        Due.is("to the end", x.pass(9), 9999);
    }

    // Promise 9
    private static void clearBin() {
        PaperInBin x = Due.office("pp11;i9;");
        Due.is("clear", x.clearBin(), 9);
        Due.is("clear", x.clearBin(), 0);
        x.throwIt(0, 3, 1);
        Due.is("clear", x.clearBin(), 1);
        counts(x, "cleared", 1, 12, 0, 1, 1, 1, 40, 40, 0, 0);
    }

    // Promise 10
    private static void good() {
        // RISE 0: heights 5 4 2, RISE 1: 6 6 5 3, RISE 2: 7 8 8 7 5 2. In: cells 12 or 13.
        // PACE 3: RISE 0 no (9), 1 yes (12), 2 no (18); PACE 4: 0 yes (12), 1 no (16), 2 no (24); PACE 2: 2 yes (12)
        PaperInBin x = Due.office("pp11;");
        Due.is("good(0, 3, 1)", x.good(0, 3, 1), 3);
        // PACE 2: RISE 1 no, 2 yes, 3 (8 10 11 11 10 8 5 1: 16) no; PACE 3: 1 yes, 3 (24) no; PACE 1: 3 (8) no
        Due.is("good(0, 2, 2)", x.good(0, 2, 2), 2);
        // PACE 0 .. 2, RISE -6 .. -4: on the floor at once
        Due.is("good(0, 1, -5)", x.good(0, 1, -5), 0);
        // a BIN of cell 1 alone, HAND 9: PACE 1 comes down over it from 9 to 3, 4, 5; PACE 0 just ahead, 2 just behind
        x = Due.office("b1,13;pp11;h9;");
        Due.is("good(0, 1, -5), a slip to RISE -6", x.good(0, 1, -5), 1);
        x = Due.office("b1,15;pp11;h9;");
        Due.is("good(0, 1, -5)", x.good(0, 1, -5), 3);
        // a slip to PACE 10: from 9 by RISE -2 to 7, by -1 to 8 at cell 10; PACES 8 and 9 end at RIM 8 ahead of it
        x = Due.office("pk11;b10,18;h9;w60;");
        Due.is("good(0, 9, -1), slips to PACE 10", x.good(0, 9, -1), 2);
        counts(x, "in mind", 1, 10, 0, 0, 0, 0, 60, 40, 0, 0);
        Due.is("a full bin", Due.office("pp11;i9;").good(0, 3, 1), 0);
        Due.is("nobody", x.good(1, 0, 0), -1);
        Due.is("below", x.good(0, 0, 16), -4);
        Due.is("below", x.good(0, 10, -6), -4);
        Due.is("above", x.good(0, 10, 0), -6);
        Due.is("above", x.good(0, 9, 16), -6);
    }

    // Promise 11
    private static void best() {
        PaperInBin x = Due.office("pp11;i9;");
        Due.is("none is in", x.best(0, 0), 100);
        Due.is("none is in", x.best(0, 1), 0);
        // PACE 1 and RISES -6 to -4 are in at once (see good)
        x = Due.office("b1,15;pp11;h9;");
        Due.is("least pace, least rise", x.best(0, 0), 100);
        Due.is("how many", x.best(0, 1), 3);
        Due.is("nobody", x.best(1, 2), -1);
        Due.is("nobody", x.best(-1, 0), -1);
        Due.is("other", x.best(0, 2), -2);
        Due.is("other", x.best(0, -1), -2);
        Due.is("-2", x.count(12), 2);
        Due.is("most", mostGood("pk11;b10,18;h9;w60;"), 1);
        Due.is("most", mostGood("ps52;b9,32;w20;"), 1);
    }

    /** Whether best() is the first of all that good() makes the most of; 1 if so. */
    private static int mostGood(String text) {
        PaperInBin x = Due.office(text);
        int most = -1;
        int by = 0;
        for (int pace = 1; pace <= 9; pace++) {
            for (int rise = -5; rise <= 15; rise++) {
                if (x.good(0, pace, rise) > most) {
                    most = x.good(0, pace, rise);
                    by = 100 * pace + 5 + rise;
                }
            }
        }
        return most > 0 && x.best(0, 0) == by && x.best(0, 1) == most ? 1 : 0;
    }

    // Promise 12
    private static void off() {
        // the WALL stands close behind the BIN, the CEILING is low: some strike one, some the other, some both
        PaperInBin x = Due.office("b5,21;w8;pp11;h9;c12;");
        int offWall = 0;
        int straight = 0;
        for (int pace = 1; pace <= 9; pace++) {
            for (int rise = -5; rise <= 15; rise++) {
                if (x.fly(0, pace, rise, 0) == 0) {
                    int struck = x.fly(0, pace, rise, 4);
                    offWall += struck / 2 % 2;
                    straight += struck == 0 ? 1 : 0;
                }
            }
        }
        Due.is("off the wall", x.off(0, 0), offWall);
        Due.is("straight", x.off(0, 1), straight);
        Due.is("some are", offWall > 0 && straight > 0 && offWall != straight ? 1 : 0, 1);
        Due.is("a full bin", Due.office("pp11;i9;").off(0, 1), 0);
        Due.is("nobody", x.off(1, 2), -1);
        Due.is("other", x.off(0, 2), -2);
        Due.is("other", x.off(0, -1), -2);
    }

    // Promise 13
    private static void when() {
        // PERIOD 3: in with the FAN's three first steps (see FlightTests.fanEachSecond)
        PaperInBin x = Due.office("pp11;f+33;");
        Due.is("now", x.when(0, 1, 0), 0);
        x.pass(1);
        Due.is("in two", x.when(0, 1, 0), 2);
        Due.is("second", x.count(3), 1);
        x = Due.office("pp11;f+39;");
        x.pass(1);
        Due.is("in eight", x.when(0, 1, 0), 8);
        x.pass(8);
        Due.is("now", x.when(0, 1, 0), 0);
        Due.is("never", x.when(0, 1, -5), -9);
        Due.is("full", Due.office("pp11;i9;").when(0, 3, 1), -9);
        Due.is("nobody", x.when(1, 0, 0), -1);
        Due.is("below", x.when(0, 0, 16), -4);
        Due.is("below", x.when(0, 10, -6), -4);
        Due.is("above", x.when(0, 10, 0), -6);
        Due.is("above", x.when(0, 9, 16), -6);
    }

    // Promise 14
    private static void crumpled() {
        // SIZE 3: DRAG 1 with TIGHT 0 .. 3, else 0; PACE 3 and RISE 1 are in with DRAG 0
        PaperInBin x = Due.office("pp30;");
        Due.is("crumpled", x.crumpled(0, 3, 1), 0x3f0);
        Due.is("as it is", x.ball(0, 2), 0);
        // DRAG 1: cells 5 9 12 14 in heights 6 6 5 3 (beyond), 4 7 9 10
        Due.is("never", x.crumpled(0, 1, -5), 0);
        // SIZE 9, DRAG 3 2 1: PACE 9, RISE 0: 9 15 18; 9 16 21; 9 17 24
        x = Due.office("pp99;b18,13;");
        Due.is("loose ones", x.crumpled(0, 9, 0), 0x00f);
        x = Due.office("pp99;b21,13;");
        Due.is("between", x.crumpled(0, 9, 0), 0x0f0);
        x = Due.office("pp90;b24,13;");
        Due.is("tight ones", x.crumpled(0, 9, 0), 0x300);
        Due.is("all", Due.office("pk55;b6,13;").crumpled(0, 3, 0), 0x3ff);
        Due.is("nobody", x.crumpled(1, 0, 0), -1);
        Due.is("below", x.crumpled(0, 0, 16), -4);
        Due.is("below", x.crumpled(0, 10, -6), -4);
        Due.is("above", x.crumpled(0, 10, 0), -6);
        Due.is("above", x.crumpled(0, 9, 16), -6);
    }

    // Promise 15
    private static void fills() {
        PaperInBin x = Due.office("pp11;");
        Due.is("in", x.fills(0, 3, 1), 0x1ff);
        Due.is("not in", x.fills(0, 3, 0), 0);
        x = Due.office("pp11;i9;");
        Due.is("full now", x.fills(0, 3, 1), 0x1ff);
        Due.is("as it is", x.count(2), 9);
        Due.is("nobody", x.fills(1, 0, 0), -1);
        Due.is("below", x.fills(0, 0, 16), -4);
        Due.is("below", x.fills(0, 10, -6), -4);
        Due.is("above", x.fills(0, 10, 0), -6);
        Due.is("above", x.fills(0, 9, 16), -6);
    }

    // Promise 16
    private static void whose() {
        // DRAG 0, 3, 4, 5 and LEADEN: PACE 9, RISE 0 end at 36, 18, 15, 13 (in, at the rim), 27
        PaperInBin x = Due.office("pp11;pp90;ps90;pl90;pk90;");
        Due.is("plain", x.whose(9, 0, 36), 1);
        Due.is("with drag", x.whose(9, 0, 18), 2);
        Due.is("sheet", x.whose(9, 0, 15), 4);
        Due.is("in", x.whose(9, 0, 13), 8);
        Due.is("leaden", x.whose(9, 0, 27), 16);
        Due.is("none", x.whose(9, 0, 12), 0);
        Due.is("all", x.whose(1, -5, 1), 31);
        Due.is("no such cell", x.whose(1, -5, -1), 0);
        Due.is("no such cell", x.whose(1, -5, Integer.MIN_VALUE), 0);
        Due.is("below", x.whose(0, 16, 0), -4);
        Due.is("below", x.whose(10, -6, 0), -4);
        Due.is("above", x.whose(10, 15, 0), -6);
        Due.is("above", x.whose(9, 16, 0), -6);
        Due.is("no balls", new PaperInBin().whose(1, -5, 1), 0);
    }

    // Promise 17
    private static void inRow() {
        Due.inRow(0, 0, 1, 1);
        Due.inRow(0, 5, 1, 1);
        Due.inRow(1, 0, 0, 1);
        Due.inRow(15, 0, 0, 1);
        Due.inRow(15, 9, 1, 1);
        Due.inRow(1, 3, 1, 3);
        Due.inRow(2, 6, 4, 9);
        Due.inRow(3, 2, 8, 729);
        Due.inRow(15, 8, 35184372088832L, 205891132094649L);
        Due.inRow(15, 1, 1, 205891132094649L);
        Due.inRow(15, 6, 32768, 14348907);
        PaperInBin x = new PaperInBin();
        Due.is("below", x.inRow(-1, 10, 2), LONG_REFUSALS + 4);
        Due.is("below", x.inRow(16, -1, 2), LONG_REFUSALS + 4);
        Due.is("above", x.inRow(16, 0, 2), LONG_REFUSALS + 6);
        Due.is("above", x.inRow(15, 10, 2), LONG_REFUSALS + 6);
        Due.is("other", x.inRow(15, 9, 2), LONG_REFUSALS + 2);
        Due.is("other", x.inRow(15, 9, -1), LONG_REFUSALS + 2);
        Due.is("-4", x.count(14), 2);
        Due.is("-6", x.count(16), 2);
        Due.is("-2", x.count(12), 2);
    }

    // Promise 18
    private static void soMany() {
        Due.soMany(0, 0, 0, 1, 1);
        Due.soMany(15, 0, 0, 1, 1);
        Due.soMany(15, 0, 4, 1, 1);
        Due.soMany(15, 1, 0, 0, 1);
        Due.soMany(15, 15, 9, 1, 1);
        Due.soMany(2, 1, 3, 5, 9);
        Due.soMany(2, 2, 3, 1, 9);
        Due.soMany(3, 2, 6, 20, 27);
        // 1 less 8^15 of 9^15
        Due.soMany(15, 1, 1, 170706760005817L, 205891132094649L);
        // 3 by 2^2 by 7, and 2^3, of 9^3
        Due.soMany(3, 2, 2, 92, 729);
        PaperInBin x = new PaperInBin();
        Due.is("below", x.soMany(-1, 0, 10, 2), LONG_REFUSALS + 4);
        Due.is("below", x.soMany(16, -1, 0, 2), LONG_REFUSALS + 4);
        Due.is("below", x.soMany(16, 17, -1, 2), LONG_REFUSALS + 4);
        Due.is("above", x.soMany(16, 0, 0, 2), LONG_REFUSALS + 6);
        Due.is("above", x.soMany(3, 4, 0, 2), LONG_REFUSALS + 6);
        Due.is("above", x.soMany(3, 3, 10, 2), LONG_REFUSALS + 6);
        Due.is("other", x.soMany(3, 3, 9, 2), LONG_REFUSALS + 2);
        Due.is("other", x.soMany(3, 3, 9, -1), LONG_REFUSALS + 2);
        Due.is("-4", x.count(14), 3);
        Due.is("-6", x.count(16), 3);
        Due.is("-2", x.count(12), 2);
    }

    // Promise 19
    private static void farthest() {
        // a SHEET of SIZE 9 has DRAG 4: at most 9 and 5 and 1 cells; TIGHT 0
        PaperInBin x = Due.office("ps90;b1,11;");
        Due.is("sheet", x.farthest(0), 15);
        Due.is("as it is", x.count(1), 1);
        // LOOSE, DRAG 5: 9 and 4; WALL 5: no AT is ahead of it but 1 .. 4
        Due.is("loose", Due.office("pl90;b1,11;").farthest(0), 13);
        Due.is("wide", Due.office("pl90;b1,51;").farthest(0), 13);
        Due.is("ahead of the wall", Due.office("pp11;b1,21;w9;").farthest(0), 7);
        Due.is("the greatest AT", Due.office("pp11;b1,21;w60;").farthest(0), 40);
        Due.is("full", Due.office("pp11;i9;").farthest(0), -9);
        Due.is("nobody", x.farthest(1), -1);
        Due.is("nobody", x.farthest(-1), -1);
    }

    // Promise 20
    private static void row() {
        PaperInBin x = new PaperInBin();
        Due.is("below", x.row(-1), -4);
        Due.is("above", x.row(10000), -6);
        for (int i = 1; i <= 12; i++) {
            Due.is("row " + i, x.row(i % 2 == 0 ? 0 : 9999), i);
            Due.is("in the row", x.count(8), i);
        }
        Due.is("full", x.row(0), -6);
        Due.is("full", x.row(10000), -6);
        Due.is("full, below", x.row(-1), -4);
        Due.is("in the row", x.count(8), 12);
    }

    // Promise 21
    private static void judge() {
        PaperInBin x = Due.office("pp11;pk11;");
        Due.is("none", Due.judged(x), -9);
        Due.is("all in", Due.judged(x, 306, 306, 405, 306), -9);
        Due.is("the last not", Due.judged(x, 306, 306, 405, 305), 3);
        Due.is("the first not", Due.judged(x, 305, 306), 0);
        Due.is("no such ball", Due.judged(x, 306, 2306), 1);
        Due.is("ball 1", Due.judged(x, 306, 1306), 1);
        Due.is("pace 0", Due.judged(x, 306, 306, 6), 2);
        Due.is("rise 16", Due.judged(x, 306, 321), 1);
        Due.is("9999", Due.judged(x, 9999), 0);
        counts(x, "in mind", 2, 12, 0, 0, 0, 0, 40, 40, 0, 0);
        x = Due.office("pp11;i7;");
        Due.is("filled", Due.judged(x, 306, 306, 306), 2);
        Due.is("fill", x.count(2), 7);
        x = Due.office("pp11;f+33;");
        Due.is("second by second", Due.judged(x, 105, 105), 1);
        Due.is("second", x.count(3), 0);
        x.pass(3);
        Due.is("from this second", Due.judged(x, 105, 105), 1);
        x.pass(1);
        Due.is("from this second", Due.judged(x, 105, 105), 0);
        x = Due.office("pp11;f+31;");
        Due.is("twelve", Due.judged(x, 105, 105, 105, 105, 105, 105, 105, 105, 105, 105, 105, 105), 9);
        // RISE 15 is a throw still: heights 20 34 47 -> 33 19 4, by 8 to cell 40
        x = Due.office("pp11;w60;b40,15;");
        Due.is("rise 15", Due.judged(x, 820), -9);
    }

    // Promise 22
    private static void lots() {
        PaperInBin x = new PaperInBin();
        Due.is("below", x.lots(0, 1), -4);
        Due.is("above", x.lots(31, 1), -6);
        Due.is("no balls", x.lots(30, 1), -3);
        Due.is("-3", x.count(13), 1);
        // seed 0: 1013904223, 1196435762, 3519870697, by 256: 3960563, 4673577, 5360886: BALL 0, PACE 4, RISE 1, to 16
        Due.is("one that is in", Due.office("b16,13;pp11;").lots(1, 0), 1);
        Due.is("one that is not", Due.office("b12,23;pp11;").lots(1, 0), 0);
        // a BIN as wide and low as can be takes many; see ModelTests for the draws of many seeds
        x = Due.office("w60;b8,51;pp30;pk11;");
        int some = 0;
        for (int z = -20; z < 20; z++) {
            some += x.lots(30, z);
        }
        Due.is("some are in", some > 0 ? 1 : 0, 1);
        counts(x, "in mind", 2, 8, 0, 0, 0, 0, 60, 40, 0, 0);
        Due.is("a full bin", Due.office("w60;b8,51;pp30;i9;").lots(30, 1), 0);
        Due.is("below", x.lots(-1, 1), -4);
        Due.is("above", x.lots(31, 1), -6);
    }

    // Promises 23 and 24
    private static void imageAndOn() {
        PaperInBin x = Due.office("pp11;f+13;h4;");
        Due.is("none yet", x.on(), -3);
        x.pass(5);
        x.throwIt(0, 1, 0);
        Due.is("image", x.image(), 6);
        Due.tell(x, "pk91;b20,23;w30;c20;i4;f-21;h9;");
        x.crumple(0, 8);
        x.pass(40);
        x.throwIt(0, 1, 0);
        x.letter('h');
        x.row(5);
        x.letter(-1);
        Due.is("on", x.on(), 6);
        counts(x, "on", 1, 12, 0, 6, 0, 1, 40, 40, 1, 1);
        Due.is("refusals stay", x.count(13), 1);
        Due.is("refusals stay", x.count(14), 1);
        Due.is("ball", x.ball(0, 0), 0);
        Due.is("tight", x.ball(0, 2), 1);
        Due.is("fan", x.ball(0, 5), 11);
        Due.is("no second ball", x.ball(1, 0), -1);
        Due.is("hand", x.fly(0, 1, 0, 3), 4);
        x.pass(9);
        Due.is("on once more", x.on(), 6);
        Due.is("the letter stayed", Due.tell(x, "7;"), 1);
        Due.is("hand", x.fly(0, 1, 0, 3), 7);
        Due.is("another image", x.image(), 6);
        x.pass(1);
        Due.is("on from it", x.on(), 6);
        Due.is("hand", x.fly(0, 1, 0, 3), 7);
        PaperInBin empty = new PaperInBin();
        Due.is("of the empty one", empty.image(), 0);
        Due.tell(empty, "pp11;");
        Due.is("on", empty.on(), 0);
        Due.is("no balls", empty.count(0), 0);
    }

    // Promise 25
    private static void count() {
        PaperInBin x = Due.office("w55;b7,23;c33;i4;pp11;pp11;pp11;");
        x.pass(8);
        x.throwIt(0, 3, 1);
        x.row(1);
        x.row(2);
        x.letter('a');
        counts(x, "all", 3, 7, 4, 9, 0, 1, 55, 33, 2, 1, -9);
        x.ball(9, 0);
        for (int i = 0; i < 2; i++) {
            x.ball(0, 9);
        }
        for (int i = 0; i < 3; i++) {
            x.on();
        }
        for (int i = 0; i < 4; i++) {
            x.pass(0);
        }
        for (int i = 0; i < 6; i++) {
            x.pass(100);
        }
        int[] refusals = {1, 2, 3, 4, 0, 6};
        for (int i = 0; i < 6; i++) {
            Due.is("refusals " + (-1 - i), x.count(11 + i), refusals[i]);
        }
        Due.is("count(-1)", x.count(-1), -9);
        Due.is("count(17)", x.count(17), -9);
        Due.is("count(least)", x.count(Integer.MIN_VALUE), -9);
        Due.is("count(greatest)", x.count(Integer.MAX_VALUE), -9);
        Due.is("-9 is no refusal", x.count(12), 2);
    }
}
