/**
 * The image, the refusals, the promises.
 * Each sentence of the document that names a boundary is quoted, in the document's order, with a test of its own: the
 * last number that is still fine, the first that is not, empty and full, turned about, refused.
 * What is due is worked out by hand.
 */
public final class PromiseEdgeTests {
    private static final int LEAST = Integer.MIN_VALUE;
    private static final int GREATEST = Integer.MAX_VALUE;
    private static final long LONG_REFUSALS = 4000000000000000000L;

    public static void main(String[] args) {
        theRefusals();
        thePromises();
        Due.end("PromiseEdgeTests");
    }

    // ---- The image, the refusals

    private static void theRefusals() {
        theImage();
        refusedChangesNothing();
        refusedInOrder();
        refusedLongs();
    }

    // "THE IMAGE: all that there is (not the ROW, letters, REFUSALS); ON from it all is as then."
    private static void theImage() {
        PaperInBin x = Due.office("pp11;f+13;h4;b10,13;w30;c20;");
        Due.is("none yet", x.on(), -3);
        Due.passTo(x, 7);
        x.throwIt(0, 3, 1);
        Due.is("taken", x.image(), 8);
        String then = Due.seen(x);
        Due.tell(x, "pk91;b20,23;w40;c30;i4;f-21;h9;");
        x.crumple(0, 8);
        x.throwIt(0, 1, 0);
        Due.passTo(x, 60);
        Due.is("on", x.on(), 8);
        Due.same("all is as then", Due.seen(x), then);
        x.clearBin();
        x.throwIt(0, 1, 0);
        Due.is("on again from the same", x.on(), 8);
        Due.same("all is as then", Due.seen(x), then);
        x.row(100);
        x.row(100);
        x.letter('h');
        x.pass(0);
        Due.is("on", x.on(), 8);
        Due.is("the ROW is as now", x.count(8), 2);
        Due.is("the letters are as now", x.count(9), 1);
        Due.is("the REFUSALS are as now", x.count(13) * 10 + x.count(14), 11);
        Due.is("taken anew", x.image(), 8);
        x.pass(1);
        x.image();
        x.pass(1);
        Due.is("the newest", x.on(), 9);
    }

    /** Refused calls of each kind: how many, in the order -1, -2, -3, -4, -6. */
    private static final int[] REFUSED = {12, 8, 0, 17, 19};

    private static void refusedCalls(PaperInBin x) {
        // -1
        x.ball(1, 0);
        x.crumple(1, 1);
        x.fly(1, 1, 1, 0);
        x.throwIt(-1, 1, 1);
        x.good(1, 1, 1);
        x.best(1, 0);
        x.off(1, 0);
        x.when(1, 1, 1);
        x.crumpled(1, 1, 1);
        x.fills(1, 1, 1);
        x.farthest(1);
        x.farthest(LEAST);
        // -2
        x.ball(0, 6);
        x.fly(0, 1, 1, 5);
        x.best(0, 2);
        x.off(0, -1);
        x.inRow(1, 1, 2);
        x.inRow(1, 1, -1);
        x.soMany(1, 1, 1, 2);
        x.soMany(1, 1, 1, -1);
        // -4
        x.letter(-1);
        x.crumple(0, -1);
        x.fly(0, 0, 1, 0);
        x.throwIt(0, 1, -6);
        x.pass(0);
        x.good(0, 0, 1);
        x.when(0, 1, -6);
        x.crumpled(0, 0, 1);
        x.fills(0, 1, -6);
        x.whose(0, 1, 1);
        x.whose(1, -6, 1);
        x.inRow(-1, 1, 0);
        x.inRow(1, -1, 0);
        x.soMany(1, -1, 1, 0);
        x.row(-1);
        x.lots(0, 1);
        x.lots(LEAST, 1);
        // -6
        x.letter(256);
        x.crumple(0, 10);
        x.fly(0, 10, 1, 0);
        x.throwIt(0, 10, 1);
        x.throwIt(0, 1, 16);
        x.pass(100);
        x.pass(GREATEST);
        x.good(0, 1, 16);
        x.when(0, 10, 1);
        x.crumpled(0, 1, 16);
        x.fills(0, 10, 1);
        x.whose(10, 1, 1);
        x.whose(1, 16, 1);
        x.inRow(16, 1, 0);
        x.inRow(1, 10, 0);
        x.soMany(1, 2, 1, 0);
        x.soMany(16, 1, 1, 0);
        x.row(10000);
        x.lots(31, 1);
    }

    // "REFUSALS (the call answers the number ..; nothing changes but how many there were)"
    private static void refusedChangesNothing() {
        PaperInBin x = Due.office("pp34;f+13;h4;b10,13;w30;c20;i3;");
        x.row(305);
        x.row(306);
        x.letter('h');
        x.image();
        x.pass(5);
        String before = Due.seen(x);
        refusedCalls(x);
        Due.same("nothing changes", Due.seen(x), before);
        int[] places = {11, 12, 13, 14, 16};
        for (int i = 0; i < places.length; i++) {
            Due.is("how many: count(" + places[i] + ")", x.count(places[i]), REFUSED[i]);
        }
        Due.is("-5 is none", x.count(15), 0);
        Due.is("the letter stayed", Due.tell(x, "5;"), 1);
        Due.is("the IMAGE stayed", x.on(), 0);
    }

    // "The first that fits in the order in which it tells them."
    private static void refusedInOrder() {
        PaperInBin x = Due.office("pp11;");
        Due.is("-1 ahead of -2", x.ball(1, 6), -1);
        Due.is("-1 ahead of -4", x.crumple(1, -1), -1);
        Due.is("-1 ahead of -6", x.crumple(1, 10), -1);
        int[][] wrong = {{0, 1}, {10, 1}, {1, -6}, {1, 16}, {LEAST, LEAST}, {GREATEST, GREATEST}};
        for (int[] w : wrong) {
            Due.is("fly: -1 first", x.fly(1, w[0], w[1], 9), -1);
            Due.is("throwIt: -1 first", x.throwIt(1, w[0], w[1]), -1);
            Due.is("good: -1 first", x.good(-1, w[0], w[1]), -1);
            Due.is("when: -1 first", x.when(LEAST, w[0], w[1]), -1);
            Due.is("crumpled: -1 first", x.crumpled(GREATEST, w[0], w[1]), -1);
            Due.is("fills: -1 first", x.fills(5, w[0], w[1]), -1);
        }
        int[][] belowAndAbove = {{0, 16}, {10, -6}, {LEAST, GREATEST}, {GREATEST, LEAST}};
        for (int[] w : belowAndAbove) {
            Due.is("fly: -4 ahead of -6", x.fly(0, w[0], w[1], 9), -4);
            Due.is("throwIt: -4 ahead of -6", x.throwIt(0, w[0], w[1]), -4);
            Due.is("good: -4 ahead of -6", x.good(0, w[0], w[1]), -4);
            Due.is("when: -4 ahead of -6", x.when(0, w[0], w[1]), -4);
            Due.is("crumpled: -4 ahead of -6", x.crumpled(0, w[0], w[1]), -4);
            Due.is("fills: -4 ahead of -6", x.fills(0, w[0], w[1]), -4);
            Due.is("whose: -4 ahead of -6", x.whose(w[0], w[1], 0), -4);
        }
        Due.is("fly: -6 ahead of -2", x.fly(0, 10, 1, 9), -6);
        Due.is("fly: -6 ahead of -2", x.fly(0, 1, 16, -1), -6);
        Due.is("fly: -4 ahead of -2", x.fly(0, 0, 1, 5), -4);
        Due.is("best: -1 ahead of -2", x.best(1, 2), -1);
        Due.is("off: -1 ahead of -2", x.off(1, 2), -1);
        Due.is("lots: -4 ahead of -3", new PaperInBin().lots(0, 1), -4);
        Due.is("lots: -6 ahead of -3", new PaperInBin().lots(31, 1), -6);
    }

    // "Of longs 4000000000000000000 less them (-1 as 4000000000000000001)."
    private static void refusedLongs() {
        PaperInBin x = new PaperInBin();
        Due.is("inRow: -4 ahead of -6", x.inRow(-1, 10, 9), LONG_REFUSALS + 4);
        Due.is("inRow: -4 ahead of -6", x.inRow(16, -1, 9), LONG_REFUSALS + 4);
        Due.is("inRow: -6 ahead of -2", x.inRow(16, 9, 9), LONG_REFUSALS + 6);
        Due.is("inRow: -6 ahead of -2", x.inRow(15, 10, 9), LONG_REFUSALS + 6);
        Due.is("inRow: -2", x.inRow(15, 9, GREATEST), LONG_REFUSALS + 2);
        Due.is("soMany: -4 ahead of -6", x.soMany(-1, 0, 10, 9), LONG_REFUSALS + 4);
        Due.is("soMany: -4 ahead of -6", x.soMany(16, -1, 10, 9), LONG_REFUSALS + 4);
        Due.is("soMany: -4 ahead of -6", x.soMany(16, 17, -1, 9), LONG_REFUSALS + 4);
        Due.is("soMany: -6 ahead of -2", x.soMany(16, 0, 0, 9), LONG_REFUSALS + 6);
        Due.is("soMany: -6 ahead of -2", x.soMany(2, 3, 0, 9), LONG_REFUSALS + 6);
        Due.is("soMany: -6 ahead of -2", x.soMany(2, 2, 10, 9), LONG_REFUSALS + 6);
        Due.is("soMany: -2", x.soMany(2, 2, 9, LEAST), LONG_REFUSALS + 2);
        Due.is("-2 of longs are counted", x.count(12), 2);
        Due.is("-4 of longs are counted", x.count(14), 5);
        Due.is("-6 of longs are counted", x.count(16), 5);
    }

    // ---- The promises

    private static void thePromises() {
        newObject();
        letter();
        ball();
        crumple();
        fly();
        throwAndPassToTheEnd();
        pass();
        throwsLookedAt();
        bestAndOff();
        whose();
        inRow();
        soMany();
        farthest();
        row();
        judgeEmptiesTheRow();
        lots();
        imageAndOn();
        count();
    }

    // 1: "An empty BIN, no BALLS."
    private static void newObject() {
        int[] want = {0, 12, 0, 0, 0, 0, 40, 40, 0, 0, -9, 0, 0, 0, 0, 0, 0, -9};
        PaperInBin x = new PaperInBin();
        for (int what = 0; what < want.length; what++) {
            Due.is("new: count(" + what + ")", x.count(what), want[what]);
        }
        Due.is("no BALL", x.farthest(0), -1);
        Due.is("an empty BIN", x.clearBin(), 0);
        Due.is("no IMAGE", x.on(), -3);
        Due.is("no letters", x.office(), -1000);
    }

    // 2: "A letter (0 .. 255) comes: how many there are. -4; -6 (255; 80, too)."
    private static void letter() {
        PaperInBin x = new PaperInBin();
        Due.is("letter(-1)", x.letter(-1), -4);
        Due.is("letter(0)", x.letter(0), 1);
        Due.is("letter(255)", x.letter(255), 2);
        Due.is("letter(256)", x.letter(256), -6);
        Due.is("the least", x.letter(LEAST), -4);
        Due.is("the greatest", x.letter(GREATEST), -6);
        for (int i = 3; i <= 80; i++) {
            Due.is("letter " + i, x.letter(';'), i);
        }
        Due.is("an eighty-first", x.letter(';'), -6);
        Due.is("an eighty-first below", x.letter(-1), -4);
        Due.is("80", x.count(9), 80);
    }

    // 4: "-1; -2."
    private static void ball() {
        PaperInBin x = Due.office("pp11;pp11;");
        Due.is("ball(-1, 0)", x.ball(-1, 0), -1);
        Due.is("ball(1, 0)", x.ball(1, 0), 0);
        Due.is("ball(2, 0)", x.ball(2, 0), -1);
        Due.is("ball(4, 0)", x.ball(4, 0), -1);
        Due.is("ball(5, 0)", x.ball(5, 0), -1);
        Due.is("the least", x.ball(LEAST, 0), -1);
        Due.is("the greatest", x.ball(GREATEST, 0), -1);
        Due.is("ball(0, -1)", x.ball(0, -1), -2);
        Due.is("ball(0, 5)", x.ball(0, 5), 10);
        Due.is("ball(0, 6)", x.ball(0, 6), -2);
        Due.is("ball(0, least)", x.ball(0, LEAST), -2);
        Due.is("ball(0, greatest)", x.ball(0, GREATEST), -2);
    }

    // 5: "TIGHT: what it was. -1; -4; -6 9."
    private static void crumple() {
        PaperInBin x = Due.office("pp15;");
        Due.is("crumple(0, -1)", x.crumple(0, -1), -4);
        Due.is("crumple(0, 10)", x.crumple(0, 10), -6);
        Due.is("crumple(0, 9)", x.crumple(0, 9), 5);
        Due.is("crumple(0, 0)", x.crumple(0, 0), 9);
        Due.is("the least", x.crumple(0, LEAST), -4);
        Due.is("the greatest", x.crumple(0, GREATEST), -6);
        Due.is("TIGHT", x.ball(0, 2), 0);
        Due.is("nobody", x.crumple(1, 5), -1);
    }

    // 6: "-1; -4 (either); -6 (9; 15); -2."
    private static void fly() {
        PaperInBin x = Due.office("pp11;");
        Due.is("PACE 0", x.fly(0, 0, 0, 0), -4);
        Due.is("PACE 1, RISE -5", x.fly(0, 1, -5, 1), 1);
        Due.is("RISE -6", x.fly(0, 1, -6, 1), -4);
        Due.is("PACE 9, RISE 15", x.fly(0, 9, 15, 3), 34);
        Due.is("PACE 10", x.fly(0, 10, 15, 3), -6);
        Due.is("RISE 16", x.fly(0, 9, 16, 3), -6);
        Due.is("what -1", x.fly(0, 1, 1, -1), -2);
        Due.is("what 4", x.fly(0, 1, 1, 4), 0);
        Due.is("what 5", x.fly(0, 1, 1, 5), -2);
        Due.is("in mind", x.count(3) + x.count(5), 0);
    }

    // 7: "-6 (9; 15; SECOND is 9999)." 8: "n SECONDS (1 .. 99) go by: SECOND. -4; -6 (99; above 9999)."
    private static void throwAndPassToTheEnd() {
        PaperInBin x = Due.office("pp11;");
        Due.passTo(x, 9900);
        Due.is("99 to the end", x.pass(99), 9999);
        Due.is("one more", x.pass(1), -6);
        Due.is("0 still is below", x.pass(0), -4);
        Due.is("no throw", x.throwIt(0, 3, 1), -6);
        Due.is("-1 first", x.throwIt(1, 3, 1), -1);
        Due.is("-4 first", x.throwIt(0, 0, 1), -4);
        Due.is("THROWN", x.count(5), 0);
        Due.is("SECOND", x.count(3), 9999);
        x = Due.office("pp11;");
        Due.passTo(x, 9901);
        Due.is("99 beyond the end", x.pass(99), -6);
        Due.is("SECOND", x.count(3), 9901);
        Due.is("97", x.pass(97), 9998);
        Due.is("2 beyond the end", x.pass(2), -6);
        Due.is("the last throw", x.throwIt(0, 3, 1), 0);
        Due.is("SECOND", x.count(3), 9999);
        Due.is("no other", x.throwIt(0, 3, 1), -6);
    }

    // 8: "n SECONDS (1 .. 99)"
    private static void pass() {
        PaperInBin x = new PaperInBin();
        Due.is("pass(0)", x.pass(0), -4);
        Due.is("pass(1)", x.pass(1), 1);
        Due.is("pass(99)", x.pass(99), 100);
        Due.is("pass(100)", x.pass(100), -6);
        Due.is("the least", x.pass(LEAST), -4);
        Due.is("the greatest", x.pass(GREATEST), -6);
        Due.is("SECOND", x.count(3), 100);
    }

    // 10, 13, 14, 15: "-1; -4 (either); -6 (9; 15)."
    private static void throwsLookedAt() {
        PaperInBin x = Due.office("pp11;");
        int[][] thrown = {{1, -5, 0}, {9, 15, 0}, {1, 15, 0}, {9, -5, 0}, {0, 1, -4}, {1, -6, -4}, {10, 1, -6},
            {1, 16, -6}, {LEAST, 1, -4}, {1, LEAST, -4}, {GREATEST, 1, -6}, {1, GREATEST, -6}};
        for (int[] t : thrown) {
            String of = "(0, " + t[0] + ", " + t[1] + ")";
            Due.is("good" + of, Math.min(0, x.good(0, t[0], t[1])), t[2]);
            Due.is("when" + of, x.when(0, t[0], t[1]), t[2] == 0 ? -9 : t[2]);
            Due.is("crumpled" + of, x.crumpled(0, t[0], t[1]), t[2]);
            Due.is("fills" + of, x.fills(0, t[0], t[1]), t[2]);
        }
        Due.is("-9 is no REFUSAL", x.count(11) + x.count(12) + x.count(13), 0);
        Due.is("-4", x.count(14), 16);
        Due.is("-6", x.count(16), 16);
    }

    // 11, 12: "-1; -2."
    private static void bestAndOff() {
        PaperInBin x = Due.office("pp11;i9;");
        for (int ball : new int[] {-1, 1, LEAST, GREATEST}) {
            Due.is("best(" + ball + ", 0)", x.best(ball, 0), -1);
            Due.is("off(" + ball + ", 0)", x.off(ball, 0), -1);
        }
        for (int what : new int[] {-1, 2, LEAST, GREATEST}) {
            Due.is("best(0, " + what + ")", x.best(0, what), -2);
            Due.is("off(0, " + what + ")", x.off(0, what), -2);
        }
    }

    // 16: "-4 (either of the first two); -6 (9; 15)."
    private static void whose() {
        PaperInBin x = Due.office("pp11;");
        Due.is("whose(0, 1, 1)", x.whose(0, 1, 1), -4);
        Due.is("whose(1, -6, 1)", x.whose(1, -6, 1), -4);
        Due.is("whose(1, -5, 1)", x.whose(1, -5, 1), 1);
        // 20 34 (47 -> 33) 19 4 -12 over 9 18 27 36 (45 -> 35) 31
        Due.is("whose(9, 15, 31)", x.whose(9, 15, 31), 1);
        Due.is("whose(10, 15, 31)", x.whose(10, 15, 31), -6);
        Due.is("whose(9, 16, 31)", x.whose(9, 16, 31), -6);
        Due.is("a cell below 0", x.whose(1, -5, -1), 0);
    }

    // 17: "-4 (either); -6 (15; 9); -2."
    private static void inRow() {
        PaperInBin x = new PaperInBin();
        Due.is("inRow(-1, 0, 0)", x.inRow(-1, 0, 0), LONG_REFUSALS + 4);
        Due.is("inRow(0, -1, 0)", x.inRow(0, -1, 0), LONG_REFUSALS + 4);
        Due.is("inRow(0, 0, 0)", x.inRow(0, 0, 0), 1);
        Due.is("inRow(15, 9, 1)", x.inRow(15, 9, 1), 1);
        Due.is("inRow(16, 9, 1)", x.inRow(16, 9, 1), LONG_REFUSALS + 6);
        Due.is("inRow(15, 10, 1)", x.inRow(15, 10, 1), LONG_REFUSALS + 6);
        Due.is("inRow(15, 9, -1)", x.inRow(15, 9, -1), LONG_REFUSALS + 2);
        Due.is("inRow(15, 9, 2)", x.inRow(15, 9, 2), LONG_REFUSALS + 2);
        Due.is("the least", x.inRow(LEAST, LEAST, LEAST), LONG_REFUSALS + 4);
        Due.is("the greatest", x.inRow(GREATEST, GREATEST, GREATEST), LONG_REFUSALS + 6);
    }

    // 18: "-4 (any of three); -6 (15; m above n; 9); -2."
    private static void soMany() {
        PaperInBin x = new PaperInBin();
        Due.is("soMany(-1, -1, 0, 0)", x.soMany(-1, -1, 0, 0), LONG_REFUSALS + 4);
        Due.is("soMany(0, -1, 0, 0)", x.soMany(0, -1, 0, 0), LONG_REFUSALS + 4);
        Due.is("soMany(0, 0, -1, 0)", x.soMany(0, 0, -1, 0), LONG_REFUSALS + 4);
        Due.is("soMany(0, 0, 0, 0)", x.soMany(0, 0, 0, 0), 1);
        Due.is("soMany(15, 15, 9, 1)", x.soMany(15, 15, 9, 1), 1);
        Due.is("soMany(16, 15, 9, 1)", x.soMany(16, 15, 9, 1), LONG_REFUSALS + 6);
        Due.is("soMany(15, 16, 9, 1)", x.soMany(15, 16, 9, 1), LONG_REFUSALS + 6);
        Due.is("soMany(0, 1, 9, 1)", x.soMany(0, 1, 9, 1), LONG_REFUSALS + 6);
        Due.is("soMany(15, 15, 10, 1)", x.soMany(15, 15, 10, 1), LONG_REFUSALS + 6);
        Due.is("soMany(15, 15, 9, 2)", x.soMany(15, 15, 9, 2), LONG_REFUSALS + 2);
        Due.is("soMany(15, 15, 9, -1)", x.soMany(15, 15, 9, -1), LONG_REFUSALS + 2);
        Due.is("the least", x.soMany(LEAST, LEAST, LEAST, LEAST), LONG_REFUSALS + 4);
        Due.is("the greatest", x.soMany(GREATEST, GREATEST, GREATEST, GREATEST), LONG_REFUSALS + 6);
    }

    // 19: "FAR; -9. -1."
    private static void farthest() {
        PaperInBin x = Due.office("pp11;i9;");
        Due.is("none", x.farthest(0), -9);
        Due.is("nobody", x.farthest(-1), -1);
        Due.is("nobody", x.farthest(1), -1);
        Due.is("nobody", x.farthest(GREATEST), -1);
        Due.is("-9 is no REFUSAL", x.count(11), 3);
    }

    // 20: "A THROW more of the ROW (0 .. 9999): how many. -4; -6 (9999; 12, too)."
    private static void row() {
        PaperInBin x = new PaperInBin();
        Due.is("row(-1)", x.row(-1), -4);
        Due.is("row(10000)", x.row(10000), -6);
        Due.is("row(0)", x.row(0), 1);
        Due.is("row(9999)", x.row(9999), 2);
        Due.is("the least", x.row(LEAST), -4);
        Due.is("the greatest", x.row(GREATEST), -6);
        for (int i = 3; i <= 12; i++) {
            Due.is("row " + i, x.row(100), i);
        }
        Due.is("a thirteenth", x.row(100), -6);
        Due.is("a thirteenth below", x.row(-1), -4);
        Due.is("twelve", x.count(8), 12);
    }

    // 21: "JUDGED; -9 (whichever it answers, the ROW has none then)."
    private static void judgeEmptiesTheRow() {
        PaperInBin x = Due.office("pp11;h9;b1,58;");
        Due.is("all IN", Due.judged(x, 100, 100), -9);
        Due.is("none then", x.count(8), 0);
        Due.is("the second is not", Due.judged(x, 100, 0, 100), 1);
        Due.is("none then", x.count(8), 0);
        Due.is("none", x.judge(), -9);
        Due.is("a first again", x.row(100), 1);
        int[] twelve = {100, 100, 100, 100, 100, 100, 100, 100, 100, 100, 100, 100};
        Due.is("twelve, nine of which have room", Due.judged(Due.office("pp11;h9;b1,58;"), twelve), 9);
    }

    // 22: "-4; -6 30; -3 there are no BALLS."
    private static void lots() {
        PaperInBin x = new PaperInBin();
        Due.is("no BALLS", x.lots(1, 1), -3);
        Due.is("no BALLS", x.lots(30, 1), -3);
        x = Due.office("pp11;i9;");
        Due.is("lots(0, 1)", x.lots(0, 1), -4);
        Due.is("lots(1, 1)", x.lots(1, 1), 0);
        Due.is("lots(30, 1)", x.lots(30, 1), 0);
        Due.is("lots(31, 1)", x.lots(31, 1), -6);
        Due.is("the least", x.lots(LEAST, LEAST), -4);
        Due.is("the greatest", x.lots(GREATEST, GREATEST), -6);
        Due.is("any seed", x.lots(30, LEAST) + x.lots(30, GREATEST), 0);
    }

    // 23: "THE IMAGE is taken: SECOND." 24: "ON from it: SECOND. -3 there is none."
    private static void imageAndOn() {
        PaperInBin x = new PaperInBin();
        Due.is("none", x.on(), -3);
        Due.is("none still", x.on(), -3);
        Due.is("of an empty one", x.image(), 0);
        Due.is("REFUSALS", x.count(13), 2);
        Due.tell(x, "pp11;");
        x.pass(9);
        Due.is("on", x.on(), 0);
        Due.is("no BALLS as then", x.count(0), 0);
        Due.passTo(x, 9999);
        Due.is("at the end", x.image(), 9999);
        Due.is("at the end", x.on(), 9999);
    }

    // 25: "-9 for another what."
    private static void count() {
        PaperInBin x = new PaperInBin();
        for (int what : new int[] {-1, 10, 17, 18, LEAST, GREATEST}) {
            Due.is("count(" + what + ")", x.count(what), -9);
        }
        for (int what : new int[] {0, 9, 11, 16}) {
            Due.is("count(" + what + ")", x.count(what), 0);
        }
        Due.is("-9 is no REFUSAL", x.count(12), 0);
    }
}
