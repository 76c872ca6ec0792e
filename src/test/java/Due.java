/** What the tests share: answers that are due, and offices told in one go. */
final class Due {
    private static int wrong = 0;
    private static int looked = 0;

    private Due() {
    }

    static void is(String call, long got, long want) {
        looked++;
        if (got != want) {
            wrong++;
            System.out.println(call + " answered " + got + ", due is " + want);
        }
    }

    /** Ends the test: with exit code 1 if an answer was not due. */
    static void end(String test) {
        System.out.println(test + ": " + looked + " answers looked at, " + wrong + " not as due");
        if (wrong != 0) {
            System.exit(1);
        }
    }

    static void letters(PaperInBin x, String text) {
        for (int i = 0; i < text.length(); i++) {
            x.letter(text.charAt(i));
        }
    }

    /** Tells x a text; what office() answers. */
    static int tell(PaperInBin x, String text) {
        letters(x, text);
        return x.office();
    }

    /** A new object that was told a text without fault. */
    static PaperInBin office(String text) {
        PaperInBin x = new PaperInBin();
        int statements = 0;
        for (int i = 0; i < text.length(); i++) {
            if (text.charAt(i) == ';') {
                statements++;
            }
        }
        is("office() of " + text, tell(x, text), statements);
        return x;
    }

    /** A flight's end, cell, steps, greatest height and what it struck. */
    static void flies(String of, PaperInBin x, int ball, int pace, int rise, int... want) {
        for (int what = 0; what < 5; what++) {
            is(of + ": fly(" + ball + ", " + pace + ", " + rise + ", " + what + ")",
                    x.fly(ball, pace, rise, what), want[what]);
        }
    }
}
