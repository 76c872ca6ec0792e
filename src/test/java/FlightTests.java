/** Flights worked out by hand from the terms, step by step. */
public final class FlightTests {
    public static void main(String[] args) {
        straight();
        rim();
        rimOnce();
        top();
        wall();
        wallBeyondHand();
        ceiling();
        ceilingTurnsIntoBin();
        fanEachSecond();
        fanByPeriod();
        fanAgainst();
        fanByKind();
        dragByKind();
        dragTowardZero();
        handOnFloor();
        floorAtBin();
        Due.end("FlightTests");
    }

    // p11 has no DRAG and FALL 1; at first: HAND 5, BIN 12 and 13, RIM 3, WALL 40, CEILING 40.
    private static void straight() {
        PaperInBin x = Due.office("pp11;");
        // (3,6) (6,6) (9,5) (12,3)
        Due.flies("down to the rim's height", x, 0, 3, 1, 0, 12, 4, 6, 0);
        // (3,5) (6,4) (9,2) (12,-1)
        Due.flies("through below the rim", x, 0, 3, 0, 2, 12, 4, 5, 0);
        // (1,5) (2,4) (3,2) (4,-1)
        Due.flies("short", x, 0, 1, 0, 1, 4, 4, 5, 0);
        // (9,5) (18,4) (27,2) (36,-1)
        Due.flies("over", x, 0, 9, 0, 2, 36, 4, 5, 0);
        // (1,0)
        Due.flies("just at the floor", x, 0, 1, -5, 1, 1, 1, 5, 0);
        // (2,3): 3 is not above RIM, (4,0)
        Due.flies("down", x, 0, 2, -2, 1, 4, 2, 5, 0);
    }

    private static void rim() {
        // (3,5) (6,4) (9,2 -> 4, back) (6,4) (3,3) (0,1) (-3 -> 0,-2)
        Due.flies("just ahead", Due.office("pp11;b10,23;"), 0, 3, 0, 1, 0, 7, 5, 4);
        Due.flies("just behind", Due.office("pp11;b7,23;"), 0, 3, 0, 1, 0, 7, 5, 4);
        Due.flies("two ahead", Due.office("pp11;b11,23;"), 0, 3, 0, 2, 12, 4, 5, 0);
        Due.flies("two behind", Due.office("pp11;b6,23;"), 0, 3, 0, 2, 12, 4, 5, 0);
        Due.flies("first cell", Due.office("pp11;b9,23;"), 0, 3, 0, 0, 9, 3, 5, 0);
        Due.flies("last cell", Due.office("pp11;b8,23;"), 0, 3, 0, 0, 9, 3, 5, 0);
        // (0,..): pace 1 by DRAG 1 stands at cell 1: (1,5) (1,4) (1,2 -> 4) (1,4) (1,3): once only, (1,1) (1,-2)
        Due.flies("wide 1", Due.office("pp31;b2,13;"), 0, 1, 0, 1, 1, 7, 5, 4);
        // (3,9) (6,8) (9,6) (12,3) (15,-1)
        Due.flies("never above the rim", Due.office("pp11;h9;b3,19;"), 0, 3, 0, 2, 15, 5, 9, 0);
    }

    private static void rimOnce() {
        // k falls by 3: (2,10) (4,7) (6,1 -> RIM 5: 6, back) (4,4): beside again, no more; (2,-1)
        PaperInBin x = Due.office("pk11;h9;b5,15;");
        Due.flies("beside again", x, 0, 2, 1, 1, 2, 5, 10, 4);
        // off the RIM back into the BIN: (3,9) (6,6) (9,0 -> 2, RIM 1) (6,0)
        Due.flies("off the rim in", Due.office("pk11;h9;b6,31;"), 0, 3, 0, 0, 6, 4, 9, 4);
    }

    private static void top() {
        PaperInBin x = Due.office("pp11;i9;");
        Due.flies("full bin", x, 0, 3, 1, 3, 12, 4, 6, 0);
        Due.is("fill 8", Due.office("pp11;i8;").fly(0, 3, 1, 0), 0);
    }

    private static void wall() {
        // (5,5) (10,4) (15 -> 13,2)
        Due.flies("off the wall in", Due.office("pp11;w14;"), 0, 5, 0, 0, 13, 3, 5, 2);
        // (5,5) (10,4) (15 -> 13,2), pace -2, (11,-1)
        Due.flies("half, turned", Due.office("pp11;b1,23;w14;"), 0, 5, 0, 2, 11, 4, 5, 2);
        // (5,5) (10,4) (15,2): at the wall is not beyond it; (20 -> 10,-1)
        Due.flies("at the wall", Due.office("pp11;b1,23;w15;"), 0, 5, 0, 2, 10, 4, 5, 2);
        Due.flies("not yet", Due.office("pp11;b1,23;w20;"), 0, 5, 0, 2, 20, 4, 5, 0);
    }

    private static void wallBeyondHand() {
        // A SHEET has DRAG 1 and is moved by 6: (9 -> 1,8), pace -4, -3, 3; (4,10), pace 2, 8; (12 -> -2 -> 0,11),
        // pace 0, 6; (6 -> 4,11), pace -3, -2, 4; (8 -> 2,10), pace -2, -1, 5; (7 -> 3,8), pace 5; (8 -> 2,5);
        // (7 -> 3,1); (8 -> 2,-4)
        PaperInBin x = Due.office("ps10;b1,19;w5;f+31;");
        Due.flies("behind the hand", x, 0, 9, 3, 2, 2, 9, 11, 2);
    }

    private static void ceiling() {
        // (3,11 -> 9), rise -6; (6,2) (9,-6)
        Due.flies("under the ceiling", Due.office("pp11;c10;"), 0, 3, 6, 1, 9, 3, 9, 1);
        // (3,10): at it is not above it; rise 4: (6,14 -> 6), rise -4 - 1; (9,1) (12,-5)
        Due.flies("at the ceiling", Due.office("pp11;c10;"), 0, 3, 5, 2, 12, 4, 10, 1);
        // WALL and CEILING in one step: (9 -> 1, 11 -> 9), pace -4, rise -6 - 1; (-3 -> 0,2 -> 4), pace 0, for cell 0
        // is just ahead of AT; (0,4) (0,3) (0,1) (0,-2)
        Due.flies("all three", Due.office("pp11;c10;b1,13;w5;"), 0, 9, 6, 1, 0, 6, 9, 7);
        // the same with the BIN out of the way: (0,2) (0,-6)
        Due.flies("both", Due.office("pp11;c10;b3,13;w5;"), 0, 9, 6, 1, 0, 3, 9, 3);
    }

    private static void ceilingTurnsIntoBin() {
        // (3,19 -> 1): RISE was 10 in this step, so it isn't looked at for the RIM; (6,-10)
        Due.flies("up, then below the rim", Due.office("pp11;c10;h9;b3,23;"), 0, 3, 10, 2, 6, 2, 9, 1);
    }

    private static void fanEachSecond() {
        // pace 1, 4, 7: (1,5) (5,4) (12,2)
        Due.flies("with it", Due.office("pp11;f+31;"), 0, 1, 0, 0, 12, 3, 5, 0);
    }

    private static void fanByPeriod() {
        PaperInBin x = Due.office("pp11;f+39;c60;w60;");
        // SECOND 0: steps 1 to 3 blow, so pace 1, 4, 7, 10, 10 ..: (1,7) (5,8) (12,8) (22,7) (32,5) (42,2) (52,-2)
        Due.flies("second 0", x, 0, 1, 2, 2, 52, 7, 8, 0);
        x.pass(7);
        // SECOND 7: step 8 is the first in SECOND 9; the flight has 7 steps
        Due.flies("second 7", x, 0, 1, 2, 1, 7, 7, 8, 0);
        x.pass(1);
        // SECOND 8: steps 4 to 7 blow: (1) (2) (3) (4) (8) (15) (25)
        Due.flies("second 8", x, 0, 1, 2, 2, 25, 7, 8, 0);
        x.pass(1);
        Due.flies("second 9", x, 0, 1, 2, 2, 52, 7, 8, 0);
    }

    private static void fanAgainst() {
        // pace 2, -1: (2,5) (1,4), pace -4: (-3 -> 0,2), pace 0 - 3; (0,-1)
        Due.flies("against it", Due.office("pp11;f-31;"), 0, 2, 0, 1, 0, 4, 5, 0);
    }

    private static void fanByKind() {
        // no FAN: (2,8) (4,8) (6,5) (8,-1)
        Due.flies("k", Due.office("pk11;f+31;"), 0, 2, 3, 1, 8, 4, 8, 0);
        // by 1: pace 2, 3, 4, 5: (2,8) (5,9) (9,8) (14,5) (20,0)
        Due.flies("w", Due.office("pw11;f+31;"), 0, 2, 3, 2, 20, 5, 9, 0);
        // -3 by half is -1: (2,8) (3,9) (3,8), pace -1: (2,5) (0,0)
        Due.flies("w against", Due.office("pw11;f-31;"), 0, 2, 3, 1, 0, 5, 9, 0);
        // by 6, less 1: pace 2, 7, 12: (2,5) (9,4) (21,2) (38,-1)
        Due.flies("s", Due.office("ps11;f+31;"), 0, 2, 0, 2, 38, 4, 5, 0);
        // by 6, less 2: pace 2, 6, 10: (2,5) (8,4) (18,2) (32,-1)
        Due.flies("l", Due.office("pl11;f+31;"), 0, 2, 0, 2, 32, 4, 5, 0);
        Due.flies("b", Due.office("pb11;f+31;"), 0, 1, 0, 0, 12, 3, 5, 0);
    }

    private static void dragByKind() {
        // DRAG 3: pace 9, 6, 3, 0: (9,5) (15,4) (18,2) (18,-1)
        Due.flies("p", Due.office("pp90;"), 0, 9, 0, 2, 18, 4, 5, 0);
        // DRAG 1: pace 9, 8, 7, 6
        Due.flies("b", Due.office("pb90;"), 0, 9, 0, 2, 30, 4, 5, 0);
        // DRAG 4: pace 9, 5, 1, 0
        Due.flies("s", Due.office("ps90;"), 0, 9, 0, 2, 15, 4, 5, 0);
        // DRAG 5: pace 9, 4, 0
        Due.flies("l", Due.office("pl90;b1,23;"), 0, 9, 0, 2, 13, 4, 5, 0);
        // no DRAG, FALL 2: (9,5) (18,3) (27,-1)
        Due.flies("w", Due.office("pw90;"), 0, 9, 0, 2, 27, 3, 5, 0);
        // no DRAG, FALL 3: (9,5) (18,2) (27,-4)
        Due.flies("k", Due.office("pk90;"), 0, 9, 0, 2, 27, 3, 5, 0);
    }

    private static void dragTowardZero() {
        // (9 -> 5,5), pace -4 and 3; (4,4) pace -1, 0; (4,2) (4,-1)
        Due.flies("turned", Due.office("pp90;b1,11;w7;"), 0, 9, 0, 2, 4, 4, 5, 2);
        // DRAG first, then FAN: pace 1, 0 less 1, -1; (1,5) (0,4), pace -1 and 1, -1 : (-1 -> 0,2) (0,-1)
        Due.flies("then the fan", Due.office("pp30;f-11;"), 0, 1, 0, 1, 0, 4, 5, 0);
        // pace 1, DRAG 3: 0, not -2
        Due.flies("not below 0", Due.office("pp90;"), 0, 1, 0, 1, 1, 4, 5, 0);
    }

    private static void handOnFloor() {
        PaperInBin x = Due.office("pp11;h0;");
        Due.flies("flat", x, 0, 1, 0, 1, 1, 1, 0, 0);
        // (3,4) (6,7) (9,9) (12,10) (15,10) (18,9) (21,7) (24,4) (27,0)
        Due.flies("up", x, 0, 3, 4, 2, 27, 9, 10, 0);
        // (2,3) (4,5) (6,6) (8,6) (10,5) (12,3)
        Due.flies("up and in", x, 0, 2, 3, 0, 12, 6, 6, 0);
    }

    private static void floorAtBin() {
        // (3,5) (6,4) (9,2) (12,-1): never above RIM 5, so it comes to the floor
        Due.flies("at AT", Due.office("pp11;b12,15;"), 0, 3, 0, 2, 12, 4, 5, 0);
        Due.flies("below AT", Due.office("pp11;b13,15;"), 0, 3, 0, 1, 12, 4, 5, 0);
    }
}
