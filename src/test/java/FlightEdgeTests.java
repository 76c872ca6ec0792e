/**
 * The flight, and what is kept in mind.
 * Each sentence of the document that names a boundary is quoted, in the document's order, with a test of its own: the
 * last number that is still fine, the first that is not, empty and full, turned about, refused.
 * What is due is worked out by hand; a flight's places are told as (cell,height).
 */
public final class FlightEdgeTests {
    private static final int LEAST = Integer.MIN_VALUE;
    private static final int GREATEST = Integer.MAX_VALUE;

    public static void main(String[] args) {
        theFlight();
        inMind();
        Due.end("FlightEdgeTests");
    }

    // ---- I. A flight

    private static void theFlight() {
        aboveCeiling();
        beyondWall();
        halfOfPace();
        belowCellNought();
        aheadOfTheStepAboveRim();
        atRimOrBelowNow();
        riseBelowNought();
        besideTheBin();
        topOfAFullOne();
        onceInAFlight();
        onTheFloor();
        shortOrLong();
        dragTowardNought();
        fanByTheStep();
    }

    // "A height above CEILING: it is as much below, RISE is turned about (CEILING is struck)."
    private static void aboveCeiling() {
        // (1,10) (2,10) (3,9) (4,7) (5,4) (6,0)
        Due.flies("at CEILING", Due.office("pp11;c10;h9;b1,13;"), 0, 1, 1, 2, 6, 6, 10, 0);
        // (1,11 -> 9), RISE -2, -3; (2,6) (3,2) (4,-3)
        Due.flies("one above", Due.office("pp11;c10;h9;b1,13;"), 0, 1, 2, 2, 4, 4, 9, 1);
        // (1,24 -> -4): as much below as it was above, on the floor at once
        Due.flies("far above", Due.office("pp11;c10;h9;b3,13;"), 0, 1, 15, 1, 1, 1, 9, 1);
        // (1,16 -> 4), RISE -7, -8; (2,-4)
        Due.flies("six above", Due.office("pp11;c10;h9;b2,13;"), 0, 1, 7, 0, 2, 2, 9, 1);
    }

    // "A cell beyond WALL: it is as much ahead of it, PACE is turned about .. (WALL is struck)."
    private static void beyondWall() {
        // HAND 3 is not above RIM 3: (5,3) (10,2) (15,0); (5,3) (10,2) (15 -> 13,0)
        Due.flies("at WALL", Due.office("pp11;h3;b1,13;w15;"), 0, 5, 0, 2, 15, 3, 3, 0);
        Due.flies("one beyond", Due.office("pp11;h3;b1,13;w14;"), 0, 5, 0, 2, 13, 3, 3, 2);
    }

    // "PACE is turned about and half, cut toward 0."
    private static void halfOfPace() {
        // (3,5) (6 -> 4,4), PACE -1; (3,2) (2,-1)
        Due.flies("3 to -1", Due.office("pp11;b1,13;w5;"), 0, 3, 0, 2, 2, 4, 5, 2);
        // (1,7) (2,8) (3,8) (4,7) (5,5) (6 -> 4,2), PACE 0; (4,-2)
        Due.flies("1 to 0", Due.office("pp11;b1,13;w5;"), 0, 1, 2, 2, 4, 7, 8, 2);
        // (2,6) (4,6) (6 -> 4,5), PACE -1; (3,3) (2,0)
        Due.flies("2 to -1", Due.office("pp11;b4,11;w5;"), 0, 2, 1, 1, 2, 5, 6, 2);
    }

    // "A cell below 0 is 0, PACE 0."
    private static void belowCellNought() {
        // (3,3 -> 4, RIM), PACE -3, by FAN -2; (1,4) -1; (0,3) is not below 0: PACE -1, by FAN 0; (0,1) (0,-2)
        Due.flies("at 0", Due.office("pp11;b4,13;f+19;"), 0, 3, -2, 1, 0, 5, 5, 4);
        // (2,3 -> 4, RIM), PACE -2, by FAN -1; (1,4), 0; (1,3), 1; (2,1), no FAN in SECOND 1; (3,-2)
        Due.flies("never", Due.office("pp11;b3,13;f+19;"), 0, 2, -2, 2, 3, 5, 5, 4);
        // (3,3 -> 4, RIM), PACE -3; (0,4) (-3 -> 0,3), PACE 0; (0,1) (0,-2)
        Due.flies("below 0", Due.office("pp11;b4,13;"), 0, 3, -2, 1, 0, 5, 5, 4);
        // (5,3 -> 4, RIM), PACE -5, by FAN -4; (1,4) -3; (-2 -> 0,3), PACE 0, by FAN 1; (1,1) (2,-2)
        Due.flies("PACE 0 then", Due.office("pp11;b6,13;f+19;"), 0, 5, -2, 1, 2, 5, 5, 4);
    }

    // ".. and it was above RIM ahead of it .."
    private static void aheadOfTheStepAboveRim() {
        // RISE -1 from HAND: (2,2) (4,0), or (2,3)
        Due.flies("from RIM", Due.office("pp11;h3;b2,23;"), 0, 2, -1, 2, 4, 2, 3, 0);
        Due.flies("from above RIM", Due.office("pp11;h4;b2,23;"), 0, 2, -1, 0, 2, 1, 4, 0);
        Due.flies("from RIM, beside", Due.office("pp11;h3;b3,23;"), 0, 2, -1, 2, 4, 2, 3, 0);
    }

    // ".. and is at RIM or below now .."
    private static void atRimOrBelowNow() {
        // (2,4), above RIM still, (4,2)
        Due.flies("above RIM now", Due.office("pp11;b2,13;"), 0, 2, -1, 2, 6, 3, 5, 0);
        Due.flies("at RIM now", Due.office("pp11;b2,14;"), 0, 2, -1, 0, 2, 1, 5, 0);
        Due.flies("far below RIM now, below the floor", Due.office("pp11;h4;b2,13;"), 0, 2, -5, 0, 2, 1, 4, 0);
        // (1,-1 -> 4), PACE -1; (0,4) (-1 -> 0,3) (0,1) (0,-2)
        Due.flies("beside, below the floor", Due.office("pp11;h4;b2,13;"), 0, 1, -5, 1, 0, 5, 4, 4);
    }

    // "If RISE was below 0 in this step": up, against the CEILING and below RIM in one step is not looked at.
    private static void riseBelowNought() {
        // (3,19 -> 1), RISE -10, -11; (6,-10)
        Due.flies("over the BIN", Due.office("pp11;c10;h9;b3,23;"), 0, 3, 10, 2, 6, 2, 9, 1);
        Due.flies("beside it", Due.office("pp11;c10;h9;b4,23;"), 0, 3, 10, 2, 6, 2, 9, 1);
        // (3,24 -> -4): on the floor over the BIN
        Due.flies("to the floor", Due.office("pp11;c10;h9;b3,23;"), 0, 3, 15, 2, 3, 1, 9, 1);
    }

    // "On the cell just ahead of AT or just behind the BIN's last one it strikes the RIM: it is at height RIM and 1,
    // PACE is turned about, RISE 1."
    private static void besideTheBin() {
        // (3,6) (6,6) (9,5 -> 6), PACE -3, RISE 1, 0; (6,6) (3,5) (0,3) (-3 -> 0,0)
        Due.flies("just ahead", Due.office("pp11;b10,15;"), 0, 3, 1, 1, 0, 7, 6, 4);
        Due.flies("just behind", Due.office("pp11;b8,15;"), 0, 3, 1, 1, 0, 7, 6, 4);
        // PACE turned about by a FAN: (3,5), 0, (3,4), -3, (0,2 -> 4): cell 0 is just ahead of AT 1; PACE 3 less 3;
        // (0,4), -3; (-3 -> 0,3), PACE 0, -3; (0,1) (0,-2)
        Due.flies("cell 0", Due.office("pp11;b1,13;f-31;"), 0, 3, 0, 1, 0, 7, 5, 4);
        // WALL 14 just behind the last cell 13: (7,4) (14,2 -> 4), PACE -7; (7,4) (0,3) (0,1) (0,-2)
        Due.flies("at the WALL", Due.office("pp11;w14;"), 0, 7, -1, 1, 0, 6, 5, 4);
    }

    // "IN (0), or TOP (3), if FILL is 9"; the RIM is struck just the same.
    private static void topOfAFullOne() {
        Due.flies("full", Due.office("pp11;i9;"), 0, 3, 1, 3, 12, 4, 6, 0);
        Due.flies("all but full", Due.office("pp11;i8;"), 0, 3, 1, 0, 12, 4, 6, 0);
        Due.flies("beside a full one", Due.office("pp11;i9;"), 0, 7, -1, 1, 0, 6, 5, 4);
        Due.flies("short of a full one", Due.office("pp11;i9;"), 0, 1, -5, 1, 1, 1, 5, 0);
    }

    // "(Once in a FLIGHT)"
    private static void onceInAFlight() {
        // LEADEN: (2,10) (4,7) (6,1 -> 6), PACE -2, RISE 1, -2; (4,4): just ahead of AT 5 once more; (2,-1)
        Due.flies("beside again", Due.office("pk11;h9;b5,15;"), 0, 2, 1, 1, 2, 5, 10, 4);
        // (3,9) (6,6) (9,0 -> 2), PACE -3, RISE 1, -2; (6,0): over the BIN then
        Due.flies("off the RIM in", Due.office("pk11;h9;b6,31;"), 0, 3, 0, 0, 6, 4, 9, 4);
        // each FLIGHT anew
        PaperInBin x = Due.office("pp11;");
        Due.is("a flight", x.fly(0, 7, -1, 4), 4);
        Due.is("another", x.fly(0, 7, -1, 4), 4);
    }

    // "At height 0 or below it ENDS on the floor."
    private static void onTheFloor() {
        Due.flies("at 0", Due.office("pp11;"), 0, 1, -5, 1, 1, 1, 5, 0);
        // (1,1) (2,-4)
        Due.flies("at 1", Due.office("pp11;"), 0, 1, -4, 1, 2, 2, 5, 0);
        Due.flies("below 0", Due.office("pp11;h4;"), 0, 1, -5, 1, 1, 1, 4, 0);
    }

    // "SHORT (1), if the cell is below AT, LONG (2) else." From HAND 3 by RISE -3 to (9,0), never above RIM 3.
    private static void shortOrLong() {
        Due.flies("below AT", Due.office("pp11;h3;b10,13;"), 0, 9, -3, 1, 9, 1, 3, 0);
        Due.flies("at AT", Due.office("pp11;h3;b9,13;"), 0, 9, -3, 2, 9, 1, 3, 0);
        Due.flies("behind the BIN", Due.office("pp11;h3;b8,13;"), 0, 9, -3, 2, 9, 1, 3, 0);
    }

    // "PACE gets less by DRAG (toward 0)."
    private static void dragTowardNought() {
        // DRAG 3: (3,5), 0; (3,4) (3,2) (3,-1)
        Due.flies("3 by 3", Due.office("pp90;"), 0, 3, 0, 1, 3, 4, 5, 0);
        Due.flies("2 by 3", Due.office("pp90;"), 0, 2, 0, 1, 2, 4, 5, 0);
        // (4,5), 1; (5,4), 0
        Due.flies("4 by 3", Due.office("pp90;"), 0, 4, 0, 1, 5, 4, 5, 0);
        // (9 -> 5,5), PACE -4, by 3 -1; (4,4), 0; (4,2) (4,-1)
        Due.flies("-4 by 3", Due.office("pp90;b1,11;w7;"), 0, 9, 0, 2, 4, 4, 5, 2);
        // (7 -> 5,5), PACE -3, by 3 0
        Due.flies("-3 by 3", Due.office("pp90;b1,11;w6;"), 0, 7, 0, 2, 5, 4, 5, 2);
    }

    // "The FAN moves PACE, if it blows in that SECOND plus (so many steps, this one too) over 4, cut."
    private static void fanByTheStep() {
        // (1,8) (2,10) (3,11) (4,11) (5,10) (6,8) (7,5) (8,1) (9,-4) without a FAN, moved by 1 from a step on
        PaperInBin x = Due.office("pp11;w60;b40,11;f+19;");
        // steps 1 to 3: PACE 1 2 3 4 4 4 4 4 4
        Due.flies("SECOND 0", x, 0, 1, 3, 1, 30, 9, 11, 0);
        Due.passTo(x, 6);
        // step 12 is the first in SECOND 9
        Due.flies("SECOND 6", x, 0, 1, 3, 1, 9, 9, 11, 0);
        Due.passTo(x, 7);
        // step 8 is the first in SECOND 9: PACE 2 in step 9
        Due.flies("SECOND 7", x, 0, 1, 3, 1, 10, 9, 11, 0);
        Due.passTo(x, 8);
        // steps 4 to 7: PACE 1 1 1 1 2 3 4 5 5
        Due.flies("SECOND 8", x, 0, 1, 3, 1, 23, 9, 11, 0);
        Due.passTo(x, 9);
        Due.flies("SECOND 9", x, 0, 1, 3, 1, 30, 9, 11, 0);
    }

    // ---- II. In mind

    private static void inMind() {
        greatestHeight();
        struckTogether();
        slipsBeyondWhatIsThrown();
        bestOfSeveral();
        offTheWallOrStraight();
        whenFromNow();
        crumpledBits();
        fillBits();
        whoseBits();
        oddsOfNoSheets();
        oddsInLeastTerms();
        farLeastAndGreatest();
        throwFillsTheBin();
        rowOfThrows();
        judgedInMind();
        drawWrapsAround();
        soManyLots();
        lotsFillTheBin();
        asItIsNow();
    }

    // "The greatest height": HAND, if it never is higher; CEILING at most.
    private static void greatestHeight() {
        Due.is("HAND", Due.office("pp11;h9;").fly(0, 1, -1, 3), 9);
        Due.is("CEILING", Due.office("pp11;h9;c10;").fly(0, 1, 1, 3), 10);
        Due.is("above CEILING", Due.office("pp11;h9;c10;").fly(0, 1, 15, 3), 9);
    }

    // "What it struck (1 CEILING, 2 WALL, 4 RIM, together)."
    private static void struckTogether() {
        // (9 -> 1,11 -> 9), PACE -4, RISE -6, -7; (-3 -> 0,2 -> 4): just ahead of AT 1; (0,4) (0,3) (0,1) (0,-2)
        Due.flies("7", Due.office("pp11;c10;b1,13;w5;"), 0, 9, 6, 1, 0, 6, 9, 7);
        Due.flies("3", Due.office("pp11;c10;b3,13;w5;"), 0, 9, 6, 1, 0, 3, 9, 3);
    }

    // "PACE 1 less, as told, 1 more, RISE likewise; PACE 0 .. 10, RISE -6 .. 16 then."
    private static void slipsBeyondWhatIsThrown() {
        // PACE 0 by 3 each step: (0,5) (3,4) (9,2); PACES 1 and 2 come to 12 and 15, RISES -1 and 1 to 3 and beyond
        Due.is("PACE 0", Due.office("pp11;f+31;b9,13;").good(0, 1, 0), 1);
        // LEADEN, from 9 by RISE -1 to (10,8), by -2 to (10,7), by 0 to (10,9), then 6; PACES 8 and 9 not over it
        Due.is("PACE 10", Due.office("pk11;h9;w60;b10,18;").good(0, 9, -1), 2);
        // from 9 by RISE -6 to (1,3); by -5 and -4 above RIM 3; PACE 0 is just ahead, PACE 2 just behind
        Due.is("RISE -6", Due.office("pp11;h9;b1,13;").good(0, 1, -5), 1);
        // RISE 16: 21 36 50 (63 -> 57) 43 28 12 -5, at cell 8; RISE 15 in its ninth step, RISE 14 in its tenth
        Due.is("RISE 16", Due.office("pp11;c60;w60;b8,13;").good(0, 1, 15), 1);
        Due.is("all nine", Due.office("pp11;h9;b1,55;").good(0, 3, -5), 9);
    }

    // "BEST: PACE and RISE by which that is most, of several the least PACE, then RISE: 100 times PACE, 5 and RISE
    // more; how many."
    private static void bestOfSeveral() {
        PaperInBin none = Due.office("pp11;i9;");
        Due.is("none: the least PACE and RISE", none.best(0, 0), 100);
        Due.is("none", none.best(0, 1), 0);
        // HAND 9, RIM 5: RISES -6 to -4 come below it over the cell of their PACE at once, so with cells 1 to 5 in the
        // BIN PACES 2 to 4 have all nine with RISE -5 (100 times 2, and 0); PACE 1 has a slip to 0, just ahead of AT
        PaperInBin x = Due.office("pp11;h9;b1,55;");
        Due.is("PACE 2", x.good(0, 2, -5), 9);
        Due.is("PACE 3 too", x.good(0, 3, -5), 9);
        Due.is("the least", x.best(0, 0), 200);
        Due.is("all nine", x.best(0, 1), 9);
        // HAND 9, RIM 8: RISES -6 to -1 come below it at once, so -5 to -2 have all nine: the least RISE
        x = Due.office("pp11;h9;b1,58;");
        Due.is("RISE -5", x.good(0, 2, -5), 9);
        Due.is("RISE -2 too", x.good(0, 2, -2), 9);
        Due.is("the least", x.best(0, 0), 200);
        // only a slip to PACE 10 comes to cell 10 at once, by RISES below 0: three from PACE 9; PACE 5 has RISES 0 and 1
        x = Due.office("pk11;h9;w60;b10,18;");
        Due.is("the greatest PACE", x.best(0, 0), 900);
        Due.is("three", x.best(0, 1), 3);
        // to cell 40 in the fifth step from above RIM 8 by PACE 8 with RISE 15, 20 34 (47 -> 33) 19 4, or 16, 21 36
        // (50 -> 30) 16 1: both from PACE 7 and RISE 15 with slips
        x = Due.office("w60;b40,18;c40;pp10;");
        Due.is("the greatest RISE", x.best(0, 0), 720);
        Due.is("two", x.best(0, 1), 2);
    }

    // "OFF the WALL: how many .. ENDS IN behind it struck the WALL; STRAIGHT: that struck nothing."
    private static void offTheWallOrStraight() {
        PaperInBin full = Due.office("pp11;i9;");
        Due.is("none is IN", full.off(0, 0), 0);
        Due.is("none is IN", full.off(0, 1), 0);
        // HAND 9, RIM 8, cells 1 to 4, WALL 5: PACES 1 to 4 with RISES -5 to -1 are IN at once, 20 of them straight;
        // PACES 6 to 9 come to 4 to 1 off the WALL with RISES -5 to -1, 20 of them; PACE 5 is at the WALL: the RIM
        PaperInBin x = Due.office("pk11;h9;b1,48;w5;");
        int[] counted = countIn(x);
        Due.is("off the wall", x.off(0, 0), counted[0]);
        Due.is("straight", x.off(0, 1), counted[1]);
        Due.is("20 at least", counted[0] >= 20 && counted[1] >= 20 ? 1 : 0, 1);
        Due.is("one by one", x.fly(0, 6, -1, 0) + x.fly(0, 9, -5, 0) + x.fly(0, 1, -5, 0), 0);
        // with a low CEILING (6 -> 4,16 -> 4), PACE -3, RISE -7, -8; (1,-4) is off the WALL too, and not straight
        x = Due.office("pp11;h9;c10;b1,41;w5;");
        Due.flies("both struck", x, 0, 6, 7, 0, 1, 2, 9, 3);
        counted = countIn(x);
        Due.is("off the wall", x.off(0, 0), counted[0]);
        Due.is("straight", x.off(0, 1), counted[1]);
    }

    /** How many flights of ball 0 are IN off the WALL, and straight, counted one by one. */
    private static int[] countIn(PaperInBin x) {
        int[] counted = new int[2];
        for (int pace = 1; pace <= 9; pace++) {
            for (int rise = -5; rise <= 15; rise++) {
                if (x.fly(0, pace, rise, 0) == 0) {
                    int struck = x.fly(0, pace, rise, 4);
                    counted[0] += struck == 2 || struck == 3 || struck == 6 || struck == 7 ? 1 : 0;
                    counted[1] += struck == 0 ? 1 : 0;
                }
            }
        }
        return counted;
    }

    // "WHEN: the first of SECONDS 0 .. 8 from now in which a FLIGHT ENDS IN; -9."
    private static void whenFromNow() {
        PaperInBin x = Due.office("pp11;f+39;");
        Due.is("now", x.when(0, 1, 0), 0);
        Due.passTo(x, 1);
        Due.is("the last SECOND looked at", x.when(0, 1, 0), 8);
        Due.passTo(x, 8);
        Due.is("the next", x.when(0, 1, 0), 1);
        Due.is("never", x.when(0, 1, -5), -9);
        Due.is("a full BIN", Due.office("pp11;i9;").when(0, 3, 1), -9);
        // 9999 is no eighth, but 10000 is: in mind there is no last SECOND
        PaperInBin y = Due.office("pp11;f+38;");
        Due.passTo(y, 9999);
        Due.is("beyond 9999", y.when(0, 1, 0), 1);
        Due.is("SECOND", y.count(3), 9999);
    }

    // "CRUMPLED: TIGHT (bits) with which a FLIGHT ENDS IN." SIZE 9 has DRAG 3 with TIGHT 0 .. 3, 2 with 4 .. 7, 1 else.
    private static void crumpledBits() {
        // PACE 9, RISE 0: at the third step's end 9 and 6 and 3, 9 and 7 and 5, 9 and 8 and 7
        Due.is("bits 0 .. 3", Due.office("pp95;b18,13;").crumpled(0, 9, 0), 0x00f);
        Due.is("bits 4 .. 7", Due.office("pp95;b21,13;").crumpled(0, 9, 0), 0x0f0);
        Due.is("bits 8 and 9", Due.office("pp95;b24,13;").crumpled(0, 9, 0), 0x300);
        Due.is("all", Due.office("pk55;b6,13;").crumpled(0, 3, 0), 0x3ff);
        Due.is("none", Due.office("pk55;b6,13;").crumpled(0, 1, -5), 0);
        Due.is("a full BIN", Due.office("pk55;b6,13;i9;").crumpled(0, 3, 0), 0);
    }

    // "FILLS (bits 0 .. 9) with which it does": 9 are a full one.
    private static void fillBits() {
        Due.is("bits 0 .. 8", Due.office("pp11;").fills(0, 3, 1), 0x1ff);
        Due.is("as full as it may be", Due.office("pp11;i9;").fills(0, 3, 1), 0x1ff);
        Due.is("none", Due.office("pp11;").fills(0, 1, -5), 0);
    }

    // "WHOSE: BALLS (bits) that, so thrown now, END on a told cell": IN, on TOP or on the floor.
    private static void whoseBits() {
        PaperInBin x = Due.office("pp11;pk11;pp11;pk11;pp11;");
        // PACE 3, RISE 1: PLAIN ones IN at 12; LEADEN ones (3,6) (6,4) (9,-1)
        Due.is("bits 0, 2 and 4", x.whose(3, 1, 12), 0x15);
        Due.is("bits 1 and 3", x.whose(3, 1, 9), 0x0a);
        Due.is("on the way only", x.whose(3, 1, 6), 0);
        x.letter('i');
        x.letter('9');
        x.letter(';');
        x.office();
        Due.is("on TOP", x.whose(3, 1, 12), 0x15);
        Due.is("no cell is refused", x.whose(3, 1, LEAST), 0);
        Due.is("no cell is refused", x.whose(3, 1, GREATEST), 0);
        Due.is("no BALLS", new PaperInBin().whose(3, 1, 12), 0);
    }

    // "n (0 .. 15) IN one behind the other"; "SO MANY of n (0 .. 15) at least m IN": of none all are IN.
    private static void oddsOfNoSheets() {
        Due.inRow(0, 0, 1, 1);
        Due.inRow(0, 9, 1, 1);
        Due.soMany(0, 0, 0, 1, 1);
        Due.soMany(0, 0, 9, 1, 1);
        Due.soMany(15, 0, 0, 1, 1);
        Due.soMany(15, 0, 5, 1, 1);
        Due.soMany(15, 15, 0, 0, 1);
        Due.soMany(1, 1, 0, 0, 1);
        Due.inRow(1, 0, 0, 1);
        Due.inRow(15, 0, 0, 1);
    }

    // "A fraction in least terms": 9 to the 15th below the line at most.
    private static void oddsInLeastTerms() {
        Due.inRow(1, 3, 1, 3);
        Due.inRow(1, 6, 2, 3);
        Due.inRow(15, 9, 1, 1);
        Due.inRow(15, 8, 35184372088832L, 205891132094649L);
        Due.inRow(15, 3, 1, 14348907);
        Due.soMany(15, 15, 9, 1, 1);
        Due.soMany(15, 15, 8, 35184372088832L, 205891132094649L);
        // all but 8 to the 15th, 1 to the 15th
        Due.soMany(15, 1, 1, 170706760005817L, 205891132094649L);
        Due.soMany(15, 1, 8, 205891132094648L, 205891132094649L);
        // 6 of 9 in one of one, 2 by 3 by 6 and 6 by 6 of 81 less 2 by 3 by 6: at least one of two, 72 of 81
        Due.soMany(1, 1, 6, 2, 3);
        Due.soMany(2, 1, 6, 8, 9);
    }

    // "FAR: the greatest AT (as WIDE, RIM, WALL are, the BIN ahead of the WALL) ..; -9."
    private static void farLeastAndGreatest() {
        // AT 1 is all there is: PACE 1 by RISE -2 to (1,3)
        Due.is("AT 1 alone", Due.office("pp11;b1,43;w5;").farthest(0), 1);
        Due.is("AT 1 and 2", Due.office("pp11;b1,33;w5;").farthest(0), 2);
        // (7,7) (14,8) (21,8) (28,7) (35,5) (42 -> 38,2) off the WALL
        Due.is("ahead of the WALL", Due.office("pp11;").farthest(0), 38);
        // PACE 5, RISE 3: 8 10 11 11 10 8 5 1 at cell 40
        Due.is("AT 40 at most", Due.office("pp11;w60;").farthest(0), 40);
        Due.is("AT 40, WIDE 5", Due.office("pp11;b1,53;w60;").farthest(0), 40);
        Due.is("AT 40, WALL 45", Due.office("pp11;b1,53;w45;").farthest(0), 40);
        Due.is("AT 39, WALL 44", Due.office("pp11;b1,53;w44;").farthest(0), 39);
        Due.is("none", Due.office("pp11;i9;").farthest(0), -9);
        // DRAG 1: 9 17 24 30 by PACE 9, RISE 1: 10 10 9 7
        Due.is("the greatest PACE", Due.office("w60;b1,18;c10;h9;pp30;").farthest(0), 30);
        // 20 34 (47 -> 33) 19 4: PACE 8, RISE 15
        Due.is("the greatest RISE", Due.office("w60;b1,18;c40;pp10;").farthest(0), 40);
        PaperInBin x = Due.office("pp11;b7,13;");
        x.farthest(0);
        Due.is("AT is as it was", x.count(1), 7);
    }

    // "To THROW a BALL: .. SECOND is 1 more, THROWN 1 more; IN: SCORE, FILL 1 more."
    private static void throwFillsTheBin() {
        PaperInBin x = Due.office("pp11;i8;");
        Due.is("the ninth", x.throwIt(0, 3, 1), 0);
        Due.is("FILL", x.count(2), 9);
        Due.is("SCORE", x.count(4), 1);
        Due.is("on top", x.throwIt(0, 3, 1), 3);
        Due.is("FILL stays", x.count(2), 9);
        Due.is("SCORE stays", x.count(4), 1);
        Due.is("THROWN", x.count(5), 2);
        Due.is("SECOND", x.count(3), 2);
        Due.is("CLEARED", x.clearBin(), 9);
        Due.is("CLEARED again", x.clearBin(), 0);
        Due.is("in again", x.throwIt(0, 3, 1), 0);
        Due.is("the FAN of this SECOND, not of the next", thrownInSecond(0), 0);
        Due.is("the FAN of this SECOND, not of the next", thrownInSecond(8), 1);
    }

    private static int thrownInSecond(int second) {
        PaperInBin x = Due.office("pp11;f+39;");
        Due.passTo(x, second);
        return x.throwIt(0, 1, 0);
    }

    // "A ROW of THROWS (1000 times the BALL, 100 times the PACE, and 5 and RISE: 12 at most)"; "the first that is none"
    private static void rowOfThrows() {
        // BIN 1 to 5, HAND 9, RIM 8: PACES 1 to 5 by RISE -5 are IN at once
        PaperInBin x = Due.office("pp11;pp11;pp11;pp11;pp11;h9;b1,58;");
        Due.is("BALL 0, PACE 1, RISE -5", Due.judged(x, 100), -9);
        Due.is("BALL 4", Due.judged(x, 4100), -9);
        Due.is("no BALL 5", Due.judged(x, 100, 5100), 1);
        Due.is("no BALL 9", Due.judged(x, 100, 9100), 1);
        Due.is("PACE 0", Due.judged(x, 100, 0), 1);
        Due.is("PACE 0", Due.judged(x, 100, 4000), 1);
        Due.is("RISE 16 and more", Due.judged(x, 100, 121), 1);
        Due.is("RISE 94", Due.judged(x, 100, 199), 1);
        // 24 38 51 (63 -> 57), RISE -12, -13, 44 30 15 -1: from above RIM 8 below it over cell 40 in the eighth step
        x = Due.office("pp11;h9;c60;w60;b40,58;");
        Due.is("PACE 5, RISE 15", Due.judged(x, 520), -9);
        Due.is("PACE 5, RISE 16 is none", Due.judged(x, 521), 0);
        x = Due.office("pp11;h9;b9,18;");
        Due.is("PACE 9, RISE -5", Due.judged(x, 900), -9);
        x = new PaperInBin();
        Due.is("an empty ROW", x.judge(), -9);
        Due.is("no BALLS", Due.judged(x, 100), 0);
    }

    // "JUDGED: the first that is none, or is not IN, one behind the other, in mind; -9."
    private static void judgedInMind() {
        PaperInBin x = Due.office("pp11;h9;b1,58;");
        Due.is("nine fill the BIN", Due.judged(x, 100, 100, 100, 100, 100, 100, 100, 100, 100), -9);
        Due.is("a tenth", Due.judged(x, 100, 100, 100, 100, 100, 100, 100, 100, 100, 100), 9);
        Due.is("the first of several", Due.judged(x, 100, 0, 100, 0), 1);
        Due.is("FILL", x.count(2), 0);
        Due.is("SECOND", x.count(3), 0);
        Due.is("SCORE", x.count(4), 0);
        Due.is("THROWN", x.count(5), 0);
        PaperInBin y = Due.office("pp11;h9;b1,58;i8;");
        Due.is("one has room", Due.judged(y, 100, 100), 1);
        // the FAN blows in SECOND 9: in the throw behind one that was in SECOND 8, that is IN without it
        y = Due.office("pp11;f+39;");
        Due.passTo(y, 8);
        Due.is("SECOND 8, then 9", Due.judged(y, 306, 105), -9);
        Due.is("SECOND 8", Due.judged(y, 105, 306), 0);
        Due.passTo(y, 9999);
        Due.is("beyond 9999", Due.judged(y, 105, 306), -9);
    }

    /** The lots of one throw of a seed, with a BIN of one cell of RIM 3 there, and with it one cell on. */
    private static void oneLot(int z, String balls, int at, int want) {
        Due.is("lots(1, " + z + ") AT " + at, Due.office("w60;c60;b" + at + ",13;" + balls).lots(1, z), want);
    }

    // "z becomes z times 1664525 and 1013904223 (an int); (z without its sign's bit by 256, cut) modulo m."
    private static void drawWrapsAround() {
        // 0: z is 1013904223, 1196435762, -775096599 (without its bit 1372387049): PACE 4673577 mod 9 = 3, and 1;
        // RISE 5360886 mod 21 = 6, less 5: (4,6) (8,6) (12,5) (16,3)
        oneLot(0, "pp11;", 16, 1);
        oneLot(0, "pp11;", 18, 0);
        // of two it is BALL 1, of five BALL 3 (3960563 mod 5); a LEADEN one comes to (12,0)
        oneLot(0, "pk11;pp11;", 16, 1);
        oneLot(0, "pp11;pk11;", 16, 0);
        oneLot(0, "pk11;pk11;pk11;pp11;pk11;", 16, 1);
        oneLot(0, "pp11;pp11;pp11;pk11;pp11;", 16, 0);
        // -1: 1012239698, 806866057, 579071060: PACE 3151820 mod 9 = 2, and 1; RISE 2261996 mod 21 = 2, less 5: (3,2)
        oneLot(-1, "pp11;", 3, 1);
        // the greatest: the same with the sign's bit, so each z is below 0
        oneLot(GREATEST, "pp11;", 3, 1);
        // 1: 1015568748, 1586005467, -2129264258 (18219390): PACE 6195333 mod 9 = 3, and 1; RISE 0, less 5: (4,0)
        oneLot(1, "pp11;", 4, 1);
        // 3: 1018897798, -1929822419, -542632280: PACE 850239 mod 9 = 0, and 1; RISE 9, less 5: 9 12 14 15 15 14 12 9 5
        // and 0 at cell 10
        oneLot(3, "pp11;", 10, 1);
        // 7: 1025555898, -371543599, -1664335620: PACE 2, and 1; RISE 5, less 5: (3,5) (6,4) (9,2)
        oneLot(7, "pp11;", 9, 1);
        for (int z : new int[] {0, 1, -1, 7, GREATEST}) {
            PaperInBin x = Due.office("w60;b8,51;pp30;pk11;pb91;ps22;");
            Due.is("the sign's bit of a seed " + z + " changes nothing", x.lots(30, z), x.lots(30, z ^ LEAST));
        }
    }

    // "n times (1 .. 30)". Seed 2: PACE 5 and RISE 0, (5,5) (10,4) (15,2), then PACE 7 and RISE -2, (7,3).
    private static void soManyLots() {
        Due.is("the first", Due.office("b15,13;pp11;").lots(1, 2), 1);
        Due.is("not the second yet", Due.office("b7,13;pp11;").lots(1, 2), 0);
        Due.is("the second", Due.office("b7,13;pp11;").lots(2, 2), 1);
    }

    // LOTS are "THROWN, in mind: SCORE of these": a BIN is full at 9 in mind too, and all is as it was.
    private static void lotsFillTheBin() {
        String wide = "w60;b8,51;pp30;pk11;";
        int z = 0;
        while (Due.office(wide).lots(30, z) < 2) {
            z++;
        }
        Due.is("FILL 9", Due.office(wide + "i9;").lots(30, z), 0);
        Due.is("FILL 8", Due.office(wide + "i8;").lots(30, z), 1);
        Due.is("FILL 7", Due.office(wide + "i7;").lots(30, z), 2);
        PaperInBin x = Due.office(wide);
        String before = Due.seen(x);
        int first = x.lots(30, z);
        Due.same("in mind", Due.seen(x), before);
        Due.is("the same again", x.lots(30, z), first);
        x = Due.office("pp11;");
        x.throwIt(0, 3, 1);
        Due.is("SCORE of these alone", x.lots(1, 0), 0);
    }

    // What is looked at in mind is the office as it is now, not as it was told.
    private static void asItIsNow() {
        // PACE 9, RISE 0 come to 21 with DRAG 2, that is TIGHT 4 .. 7
        String full = "pp95;b21,13;i9;";
        Due.is("when, cleared", cleared(full).when(0, 9, 0), 0);
        Due.is("crumpled, cleared", cleared(full).crumpled(0, 9, 0), 0x0f0);
        Due.is("good, cleared", cleared(full).good(0, 9, 0), 1);
        Due.is("off, cleared", cleared(full).off(0, 1) > 0 ? 1 : 0, 1);
        Due.is("farthest, cleared", cleared(full).farthest(0) > 0 ? 1 : 0, 1);
        PaperInBin x = Due.office("pp90;b21,13;");
        x.crumple(0, 5);
        Due.is("DRAG, crumpled", x.ball(0, 3), 2);
        Due.is("fills, crumpled", x.fills(0, 9, 0), 0x1ff);
        x = Due.office("pp90;b21,13;");
        x.crumple(0, 5);
        Due.is("whose, crumpled", x.whose(9, 0, 21), 1);
        x = Due.office("pp11;");
        x.image();
        Due.tell(x, "f+11;pk11;pk11;");
        Due.is("on", x.on(), 0);
        Due.is("no BALL 1", x.fills(1, 3, 1), -1);
        Due.is("BALL 0 alone", x.whose(3, 1, 12), 1);
        Due.tell(x, "pk11;pk11;");
        x.on();
        Due.is("FALL", x.ball(0, 4), 1);
        Due.is("KIND", x.ball(0, 0), 0);
    }

    private static PaperInBin cleared(String text) {
        PaperInBin x = Due.office(text);
        Due.is("FILL", x.clearBin(), 9);
        return x;
    }
}
