/**
 * The office, its letters, the kinds of balls.
 * Each sentence of the document that names a boundary is quoted, in the document's order, with a test of its own: the
 * last number that is still fine, the first that is not, empty and full, turned about, refused.
 * What is due is worked out by hand.
 */
public final class OfficeEdgeTests {
    private static final String ALL_KINDS = "pbwslk";

    public static void main(String[] args) {
        theOffice();
        theLetters();
        theKinds();
        Due.end("OfficeEdgeTests");
    }

    // ---- I. The office

    private static void theOffice() {
        hand();
        binAtFirst();
        binLeastAndGreatest();
        wall();
        ceiling();
        fan();
        fanBlowsInSeconds();
        fill();
        ballsAsTheyCome();
        sizeAndTight();
    }

    private static void told(String text, int want) {
        Due.is("office() of " + text, Due.tell(new PaperInBin(), text), want);
    }

    /** What a fact of an object is that was told a text. */
    private static void countAfter(String text, int what, int want) {
        Due.is("count(" + what + ") after " + text, Due.office(text).count(what), want);
    }

    // "A hand at cell 0 at a height HAND (0 .. 9: 5 at first)."
    private static void hand() {
        Due.flies("HAND 5 at first", Due.office("pp11;"), 0, 1, -5, 1, 1, 1, 5, 0);
        // no RISE: (1,0) is the floor already
        Due.flies("HAND 0", Due.office("pp11;h0;"), 0, 1, 0, 1, 1, 1, 0, 0);
        // (1,4) (2,-2)
        Due.flies("HAND 9", Due.office("pp11;h9;"), 0, 1, -5, 1, 2, 2, 9, 0);
    }

    // "A BIN: its first cell AT (.. 12 at first), WIDE (.. 2 at first), RIM (.. 3 at first)."
    // With RISE -1 a ball of HAND 5 comes from 4 to 2 in its second step: a PLAIN one without DRAG at twice its PACE,
    // a SHEET with DRAG 1 at one less.
    private static void binAtFirst() {
        PaperInBin x = Due.office("pp11;ps11;");
        Due.flies("two ahead", x, 0, 5, -1, 2, 15, 3, 5, 0);
        // (6,4) (11,2 -> 4), PACE -5, -4, RISE 1, 0; (7,4) (4,3) (2,1) (1,-2)
        Due.flies("just ahead", x, 1, 6, -1, 1, 1, 6, 5, 4);
        Due.flies("the first cell", x, 0, 6, -1, 0, 12, 2, 5, 0);
        Due.flies("the last cell", x, 1, 7, -1, 0, 13, 2, 5, 0);
        // (7,4) (14,2 -> 4), PACE -7, RISE 1, 0; (7,4) (0,3) (-7 -> 0,1) (0,-2)
        Due.flies("just behind", x, 0, 7, -1, 1, 0, 6, 5, 4);
        // (8,4) (15,2) (21,-1)
        Due.flies("two behind", x, 1, 8, -1, 2, 21, 3, 5, 0);
        // (6,5) (12,4) (18,2) (24,-1): 4 is above RIM 3 still
        Due.flies("above RIM", x, 0, 6, 0, 2, 24, 4, 5, 0);
        // (3,6) (6,6) (9,5) (12,3)
        Due.flies("at RIM", x, 0, 3, 1, 0, 12, 4, 6, 0);
    }

    // "AT (1 .. 40 ..), WIDE (1 .. 5 cells ..), RIM (its height, 1 .. 9 ..)."
    private static void binLeastAndGreatest() {
        told("b0,11;", -2000);
        told("b00,11;", -2000);
        Due.flies("AT 1", Due.office("pp11;b1,13;"), 0, 1, -2, 0, 1, 1, 5, 0);
        // (8,5) (16,6) (24,6) (32,5) (40,3)
        Due.flies("AT 40", Due.office("pp11;h3;w60;b40,13;"), 0, 8, 2, 0, 40, 5, 6, 0);
        told("w60;b41,11;", -2004);
        told("w60;b99,11;", -2004);
        told("b6,03;", -2000);
        PaperInBin x = Due.office("pp11;ps11;b6,13;");
        Due.is("WIDE 1, its cell", x.fly(0, 3, -1, 0), 0);
        Due.is("WIDE 1, just behind", x.fly(1, 4, -1, 4), 4);
        x = Due.office("pp11;ps11;b6,53;");
        Due.is("WIDE 5, the fifth cell", x.fly(0, 5, -1, 0), 0);
        Due.is("WIDE 5, just behind", x.fly(1, 6, -1, 4), 4);
        told("b6,63;", -2000);
        told("b6,93;", -2000);
        told("b6,20;", -2000);
        // (3,5) (6,4) (9,2) (12,-1)
        Due.flies("RIM 1", Due.office("pp11;b12,21;"), 0, 3, 0, 0, 12, 4, 5, 0);
        Due.flies("RIM 2", Due.office("pp11;b12,22;"), 0, 3, 0, 2, 12, 4, 5, 0);
        // (2,10) (4,10) (6,9)
        Due.flies("RIM 9", Due.office("pp11;h9;b6,19;"), 0, 2, 1, 0, 6, 3, 10, 0);
    }

    // "WALL: a cell (5 .. 60: 40 at first) that is behind the BIN's last one."
    private static void wall() {
        countAfter("h5;", 6, 40);
        // (8,7) (16,8) (24,8) (32,7) (40,5) (48 -> 32,2), PACE -4; (28,-2)
        Due.flies("WALL 40 at first", Due.office("pp11;"), 0, 8, 2, 2, 28, 7, 8, 2);
        told("b1,11;w4;", -2006);
        told("b1,11;w0;", -2006);
        countAfter("b1,11;w5;", 6, 5);
        countAfter("b1,11;w05;", 6, 5);
        countAfter("w60;", 6, 60);
        told("w61;", -2000);
        told("w99;", -2000);
        told("w12;", -2000);
        told("w13;", -2000);
        countAfter("w14;", 6, 14);
        countAfter("b39,11;", 1, 39);
        told("b40,11;", -2000);
        countAfter("b35,51;", 1, 35);
        told("b36,51;", -2000);
    }

    // "CEILING: a height (10 .. 60: 40 at first)."
    private static void ceiling() {
        countAfter("h5;", 7, 40);
        // 13 20 26 31 35 38 40 (41 -> 39) 37 34 30 25 19 12 4 -5
        Due.flies("CEILING 40 at first", Due.office("pp11;"), 0, 1, 8, 2, 16, 16, 40, 1);
        told("c9;", -2000);
        told("c09;", -2000);
        countAfter("c10;", 7, 10);
        countAfter("c60;", 7, 60);
        told("c61;", -2000);
        told("c99;", -2000);
    }

    // "FAN: PUFF (-3 .. 3: 0 at first), PERIOD (1 .. 9 SECONDS ..)."
    private static void fan() {
        Due.is("PUFF 0 at first", Due.office("pp11;").ball(0, 5), 10);
        Due.is("PUFF -3", Due.office("pp11;f-31;").ball(0, 5), 7);
        Due.is("PUFF 3", Due.office("pp11;f+39;").ball(0, 5), 13);
        Due.is("PUFF -0", Due.office("pp11;f-09;").ball(0, 5), 10);
        told("f-41;", -2000);
        told("f+41;", -2000);
        told("f-91;", -2000);
        told("f+91;", -2000);
        told("f+10;", -2000);
        told("f-00;", -2000);
    }

    private static void inAtSecond(PaperInBin x, int second, int want) {
        Due.passTo(x, second);
        Due.is("fly(0, 1, 0, 0) at SECOND " + second, x.fly(0, 1, 0, 0), want);
    }

    // "It blows in SECONDS that PERIOD divides." PACE 1 by 3 in the first three steps: (1,5) (5,4) (12,2), else SHORT.
    private static void fanBlowsInSeconds() {
        PaperInBin x = Due.office("pp11;f+39;");
        inAtSecond(x, 0, 0);
        inAtSecond(x, 1, 1);
        inAtSecond(x, 8, 1);
        inAtSecond(x, 9, 0);
        inAtSecond(x, 10, 1);
        inAtSecond(x, 17, 1);
        inAtSecond(x, 18, 0);
        inAtSecond(x, 9999, 0);
        x = Due.office("pp11;f+31;");
        inAtSecond(x, 0, 0);
        inAtSecond(x, 1, 0);
        inAtSecond(x, 2, 0);
        inAtSecond(x, 9999, 0);
    }

    // "FILL (0 .. 9 balls: 0 at first; 9 are a full one)."
    private static void fill() {
        countAfter("h5;", 2, 0);
        countAfter("i0;", 2, 0);
        countAfter("i9;", 2, 9);
        Due.is("FILL 0", Due.office("pp11;i0;").fly(0, 3, 1, 0), 0);
        Due.is("FILL 8", Due.office("pp11;i8;").fly(0, 3, 1, 0), 0);
        Due.is("FILL 9", Due.office("pp11;i9;").fly(0, 3, 1, 0), 3);
    }

    // "BALLS 0 .. 4 as they come (5 at most)."
    private static void ballsAsTheyCome() {
        PaperInBin x = Due.office("pb10;pw20;ps30;pl40;pk50;");
        for (int ball = 0; ball < 5; ball++) {
            Due.is("KIND of " + ball, x.ball(ball, 0), ball + 1);
            Due.is("SIZE of " + ball, x.ball(ball, 1), ball + 1);
        }
        Due.is("a sixth", x.ball(5, 0), -1);
        Due.is("no room", Due.tell(x, "pp11;"), -2000);
        told("pp11;pp11;pp11;pp11;pp11;pp11;", -2025);
        Due.is("five still", x.count(0), 5);
    }

    // "SIZE (1 .. 9), TIGHT (0 .. 9)."
    private static void sizeAndTight() {
        told("pp00;", -2000);
        told("pp09;", -2000);
        told("pk05;", -2000);
        PaperInBin x = Due.office("pp10;pp19;pp90;pp99;");
        int[] sizes = {1, 1, 9, 9};
        int[] tights = {0, 9, 0, 9};
        for (int ball = 0; ball < 4; ball++) {
            Due.is("SIZE of " + ball, x.ball(ball, 1), sizes[ball]);
            Due.is("TIGHT of " + ball, x.ball(ball, 2), tights[ball]);
        }
    }

    // ---- I. The letters

    private static final String[] STATEMENTS = {"b12,23;", "b9,23;", "w40;", "w5;", "c40;", "c9;", "h5;", "f+23;",
        "f-23;", "i0;", "pp51;", "pb51;", "pw51;", "ps51;", "pl51;", "pk51;"};

    private static void theLetters() {
        eightyLetters();
        numbersBeginWithNought();
        atLeastOneStatement();
        whatLacks();
        wrongLetters();
        aLetterTooMany();
        endedTooEarly();
        theFirstWrongStatement();
        behindAllAheadOfIt();
        letterAheadOfRange();
        allOrNothing();
        noBallOfAFault();
    }

    // "An office is told in letters, one by one (80 at most)."
    private static void eightyLetters() {
        PaperInBin x = new PaperInBin();
        for (int i = 0; i < 20; i++) {
            Due.letters(x, "w40;");
        }
        Due.is("80", x.count(9), 80);
        Due.is("one more", x.letter('x'), -6);
        Due.is("it is not among them", x.office(), 20);
        Due.letters(x, "h1;h1;h1;h1;h1;h1;h1;h1;h1;h1;h1;h1;h1;h1;h1;h1;h1;h1;h1;h1;h1;h1;h1;h1;h1;h1;h1;");
        Due.is("its ; had no room", x.office(), -1080);
    }

    // "Numbers may begin with 0."
    private static void numbersBeginWithNought() {
        countAfter("b01,11;", 1, 1);
        countAfter("b09,11;", 1, 9);
        countAfter("b01,11;w09;", 6, 9);
        Due.is("09 for a CEILING is 9", Due.tell(new PaperInBin(), "c09;"), -2000);
        Due.is("PUFF 0", Due.office("pp11;f+01;").ball(0, 5), 10);
    }

    // "At least one STATEMENT."
    private static void atLeastOneStatement() {
        told("", -1000);
        told(";", -1000);
        told("h0;", 1);
        PaperInBin x = Due.office("h0;");
        Due.is("the letters are no more", x.office(), -1000);
    }

    // "FAULT: kind 1 the place of .. (the end, if something lacks): -1000 less the place."
    private static void whatLacks() {
        for (String s : STATEMENTS) {
            for (int place = 0; place < s.length(); place++) {
                told(s.substring(0, place), -1000 - place);
                if (place > 0) {
                    told("h5;" + s.substring(0, place), -1003 - place);
                }
            }
        }
    }

    // "Kind 1 the place of the first letter with which no OFFICE can go on." "/" and ":" stand around the digits.
    private static void wrongLetters() {
        char[] wrong = {'x', 'B', 'P', '/', ':', ' ', 0, 255};
        for (String s : STATEMENTS) {
            for (int place = 0; place < s.length(); place++) {
                for (char c : wrong) {
                    String text = s.substring(0, place) + c + s.substring(place + 1);
                    told(text, -1000 - place);
                    told("h5;" + text + "i1;", -1003 - place);
                }
            }
        }
        told("f,23;", -1001);
        told("f.23;", -1001);
        told("f*23;", -1001);
        told("f23;", -1001);
        told("p51;", -1001);
        told("b,23;", -1001);
        told("b1223;", -1003);
        told("pc51;", -1001);
        told("pf51;", -1001);
        told("b-1,11;", -1001);
        told("h-1;", -1001);
        told("b12;", -1003);
    }

    // "(1 or 2 digits)", "(a digit each)", "(a digit)", "with ';' behind".
    private static void aLetterTooMany() {
        told("b123,23;", -1003);
        told("b012,23;", -1003);
        told("b12,234;", -1006);
        told("w401;", -1003);
        told("w040;", -1003);
        told("c401;", -1003);
        told("h51;", -1002);
        told("h05;", -1002);
        told("f+234;", -1004);
        told("f++23;", -1002);
        told("i01;", -1002);
        told("pp511;", -1004);
        told("ppp51;", -1002);
        for (String s : STATEMENTS) {
            told(s + ";", -1000 - s.length());
        }
        told("b12,,23;", -1004);
        told("b12,2,3;", -1005);
    }

    // "STATEMENTS, each with ';' behind": there is none ahead of all that it must have.
    private static void endedTooEarly() {
        String[] texts = {"b;", "b12;", "b12,;", "b12,2;", "w;", "c;", "h;", "f;", "f+;", "f-2;", "i;", "p;", "pp;",
            "pk5;"};
        for (String text : texts) {
            told(text, -1000 - (text.length() - 1));
            told("h5;" + text + "i1;", -1003 - (text.length() - 1));
        }
    }

    // "Else kind 2 the place of the first letter of the first STATEMENT that .. is not as it must be: -2000 less .."
    private static void theFirstWrongStatement() {
        told("w4;", -2000);
        told("h1;w4;", -2003);
        told("h1;w4;c9;b0,11;", -2003);
        told("h1;i2;f+11;pp11;c9;w4;", -2016);
        told("w60;w60;w60;w60;w60;w60;w60;w60;w60;w60;w60;w60;w60;w60;w60;w60;w60;w60;w60;w61;", -2076);
        told("w60;w60;w60;w60;w60;w60;w60;w60;w60;w60;w60;w60;w60;w60;w60;w60;w60;w60;w60;w6;h1", -1080);
    }

    // ".. that, behind all ahead of it in the text, is not as it must be (.. a WALL that is not behind the BIN ..)"
    private static void behindAllAheadOfIt() {
        told("b1,11;w5;", 2);
        told("w5;b1,11;", -2000);
        told("w60;b40,51;", 2);
        told("b40,51;w60;", -2000);
        told("w60;b40,11;w40;", -2011);
        told("w60;b40,11;w41;", 3);
        told("b1,41;w5;b2,41;", -2009);
        told("b1,41;w5;b2,31;", 3);
        PaperInBin x = Due.office("b1,11;w5;");
        Due.is("what an OFFICE ahead told counts too", Due.tell(x, "b5,11;"), -2000);
        Due.is("behind it", Due.tell(x, "b4,11;"), 1);
        Due.is("four BALLS", Due.tell(x, "pp11;pp11;pp11;pp11;"), 4);
        Due.is("no room for a sixth", Due.tell(x, "h1;pp11;pp11;"), -2008);
        Due.is("room for a fifth", Due.tell(x, "h1;pp11;"), 2);
    }

    // "kind 1 ..; else kind 2": a letter that can't be counts ahead of a number out of range, wherever it is.
    private static void letterAheadOfRange() {
        told("w4;x", -1003);
        told("w4;h", -1004);
        told("w4", -1002);
        told("b0,00;f+90;pp00;c1;w1;h", -1023);
        told("b0,00;f+90;pp00;c1;w1;", -2000);
    }

    // "Without FAULT all of it comes, with one nothing." "The letters .. are no more (with a FAULT neither) .. (nothing
    // is counted)."
    private static void allOrNothing() {
        String text = "b20,31;w30;c20;h7;f+21;i4;pk95;";
        String[] faults = {"x", "w", "w4;", "b28,31;", "c9;", "i"};
        PaperInBin x = Due.office("pp11;");
        String before = Due.seen(x);
        for (String f : faults) {
            Due.is("a FAULT: " + text + f, Due.tell(x, text + f) < 0 ? 1 : 0, 1);
            Due.same("with " + f + " nothing comes", Due.seen(x), before);
        }
        for (int what = 11; what <= 16; what++) {
            Due.is("a FAULT is no REFUSAL: count(" + what + ")", x.count(what), 0);
        }
        Due.is("all of it", Due.tell(x, text), 7);
        int[] counts = {2, 20, 4, 0, 0, 0, 30, 20, 0, 0};
        for (int what = 0; what < counts.length; what++) {
            Due.is("all of it: count(" + what + ")", x.count(what), counts[what]);
        }
        Due.is("PUFF", x.ball(0, 5), 12);
        Due.is("HAND", x.fly(0, 1, -5, 3), 7);
        // PACE by 2 each step: (2,7) (6,6) (12,4) (20,1)
        Due.is("RIM 1", x.fly(0, 2, 0, 0), 0);
        // (1,6) (4,4) (9,1) (16,-3)
        Due.is("not elsewhere", x.fly(0, 1, -1, 0), 1);
    }

    // "With one nothing": no BALL that was told ahead of a FAULT is there.
    private static void noBallOfAFault() {
        for (String fault : new String[] {"w4;", "pp01;", "x"}) {
            PaperInBin x = Due.office("pp11;");
            Due.is("a FAULT", Due.tell(x, "pp11;i9;" + fault) < 0 ? 1 : 0, 1);
            Due.is("ball(1, 0)", x.ball(1, 0), -1);
            Due.is("crumple(1, 5)", x.crumple(1, 5), -1);
            Due.is("fly(1, 3, 1, 0)", x.fly(1, 3, 1, 0), -1);
            Due.is("best(1, 0)", x.best(1, 0), -1);
            Due.is("farthest(1)", x.farthest(1), -1);
            Due.tell(x, "pp11;i9;" + fault);
            Due.is("whose(3, 1, 12)", x.whose(3, 1, 12), 1);
            Due.is("good(0, 3, 1)", x.good(0, 3, 1), 3);
            PaperInBin none = new PaperInBin();
            Due.tell(none, "pp11;" + fault);
            Due.is("lots(1, 0)", none.lots(1, 0), -3);
        }
    }

    // ---- I. The kinds

    private static void theKinds() {
        plainDrag();
        dragOfOthers();
        falls();
        movedByFan();
    }

    private static void dragIs(char kind, int size, int tight, int want) {
        PaperInBin x = Due.office("p" + kind + size + tight + ";");
        Due.is("DRAG of " + kind + size + tight, x.ball(0, 3), want);
    }

    // "PLAIN: SIZE by 3, cut, less TIGHT by 4, cut, 0 at least."
    private static void plainDrag() {
        int[] bySize = {0, 0, 0, 1, 1, 1, 2, 2, 2, 3};
        for (int size = 1; size <= 9; size++) {
            dragIs('p', size, 0, bySize[size]);
        }
        int[] byTight = {3, 3, 3, 3, 2, 2, 2, 2, 1, 1};
        for (int tight = 0; tight <= 9; tight++) {
            dragIs('p', 9, tight, byTight[tight]);
        }
        dragIs('p', 1, 9, 0);
        dragIs('p', 2, 4, 0);
        dragIs('p', 3, 3, 1);
        dragIs('p', 3, 4, 0);
        dragIs('p', 5, 8, 0);
        dragIs('p', 8, 8, 0);
    }

    // "BANDED: half of a PLAIN's, cut; WET: 0; SHEET: 1 more than a PLAIN; LOOSE: 1 more than a SHEET; LEADEN: 0."
    private static void dragOfOthers() {
        int[] halves = {0, 0, 0, 0, 0, 0, 1, 1, 1, 1};
        for (int size = 1; size <= 9; size++) {
            dragIs('b', size, 0, halves[size]);
            dragIs('w', size, 0, 0);
            dragIs('k', size, 0, 0);
            dragIs('s', size, 0, size / 3 + 1);
            dragIs('l', size, 0, size / 3 + 2);
        }
        dragIs('b', 9, 4, 1);
        dragIs('b', 9, 8, 0);
        dragIs('b', 1, 9, 0);
        dragIs('s', 1, 9, 1);
        dragIs('l', 1, 9, 2);
        dragIs('s', 9, 9, 2);
        dragIs('l', 9, 9, 3);
        dragIs('w', 9, 9, 0);
        dragIs('k', 9, 9, 0);
    }

    // FALL: "1; 1; WET 1 more than a PLAIN; 1; 1; LEADEN 1 more than a WET one."
    private static void falls() {
        int[] want = {1, 1, 2, 1, 1, 3};
        for (int kind = 0; kind < 6; kind++) {
            PaperInBin x = Due.office("p" + ALL_KINDS.charAt(kind) + "90;");
            Due.is("KIND", x.ball(0, 0), kind);
            Due.is("FALL of KIND " + kind, x.ball(0, 4), want[kind]);
        }
    }

    // "By PUFF; by PUFF; by half of PUFF, cut toward 0; by twice PUFF; as a SHEET; not at all."
    private static void movedByFan() {
        int[][] want = {{-3, -2, -1, 0, 1, 2, 3}, {-3, -2, -1, 0, 1, 2, 3}, {-1, -1, 0, 0, 0, 1, 1},
            {-6, -4, -2, 0, 2, 4, 6}, {-6, -4, -2, 0, 2, 4, 6}, {0, 0, 0, 0, 0, 0, 0}};
        for (int kind = 0; kind < 6; kind++) {
            for (int puff = -3; puff <= 3; puff++) {
                String text = "f" + (puff < 0 ? "-" : "+") + Math.abs(puff) + "1;p" + ALL_KINDS.charAt(kind) + "11;";
                Due.is("ball(0, 5) of " + text, Due.office(text).ball(0, 5), 10 + want[kind][puff + 3]);
            }
        }
    }
}
