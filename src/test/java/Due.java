/** What the tests share: answers that are due, and offices told in one go. */
final class Due {
    private static int wrong = 0;
    private static int looked = 0;

    private Due() {
    }

    static void is(String call, long got, long want) {
        looked++;
        if (got != want) {
            wrong++;
            System.out.println(call + " answered " + got + ", due is " + want);
        }
    }

    /** Ends the test: with exit code 1 if an answer was not due. */
    static void end(String test) {
        System.out.println(test + ": " + looked + " answers looked at, " + wrong + " not as due");
        if (wrong != 0) {
            System.exit(1);
        }
    }

    static void letters(PaperInBin x, String text) {
        for (int i = 0; i < text.length(); i++) {
            x.letter(text.charAt(i));
        }
    }

    /** Tells x a text; what office() answers. */
    static int tell(PaperInBin x, String text) {
        letters(x, text);
        return x.office();
    }

    /** A new object that was told a text without fault. */
    static PaperInBin office(String text) {
        PaperInBin x = new PaperInBin();
        int statements = 0;
        for (int i = 0; i < text.length(); i++) {
            if (text.charAt(i) == ';') {
                statements++;
            }
        }
        is("office() of " + text, tell(x, text), statements);
        return x;
    }

    /** A flight's end, cell, steps, greatest height and what it struck. */
    static void flies(String of, PaperInBin x, int ball, int pace, int rise, int... want) {
        for (int what = 0; what < 5; what++) {
            is(of + ": fly(" + ball + ", " + pace + ", " + rise + ", " + what + ")",
                    x.fly(ball, pace, rise, what), want[what]);
        }
    }

    /** Lets SECONDS pass until then. */
    static void passTo(PaperInBin x, int second) {
        while (x.count(3) < second) {
            x.pass(Math.min(99, second - x.count(3)));
        }
    }

    /** Much of what can be seen of an object that has a BALL. */
    static String seen(PaperInBin x) {
        StringBuilder text = new StringBuilder();
        for (int what = 0; what <= 9; what++) {
            text.append(x.count(what)).append(' ');
        }
        for (int what = 0; what < 6; what++) {
            text.append(x.ball(0, what)).append(' ');
        }
        int[][] thrown = {{3, 1}, {2, -1}, {1, 0}, {5, 12}, {9, 15}};
        for (int[] t : thrown) {
            for (int what = 0; what < 5; what++) {
                text.append(x.fly(0, t[0], t[1], what)).append(' ');
            }
        }
        return text.toString();
    }

    static void same(String of, String got, String want) {
        is(of + ": " + got + "instead of " + want, got.equals(want) ? 1 : 0, 1);
    }

    /** Tells a ROW and has it judged. */
    static int judged(PaperInBin x, int... told) {
        for (int v : told) {
            x.row(v);
        }
        int answer = x.judge();
        is("in the row", x.count(8), 0);
        return answer;
    }

    static void inRow(int n, int k, long above, long below) {
        PaperInBin x = new PaperInBin();
        is("inRow(" + n + ", " + k + ", 0)", x.inRow(n, k, 0), above);
        is("inRow(" + n + ", " + k + ", 1)", x.inRow(n, k, 1), below);
    }

    static void soMany(int n, int m, int k, long above, long below) {
        PaperInBin x = new PaperInBin();
        is("soMany(" + n + ", " + m + ", " + k + ", 0)", x.soMany(n, m, k, 0), above);
        is("soMany(" + n + ", " + m + ", " + k + ", 1)", x.soMany(n, m, k, 1), below);
    }
}
