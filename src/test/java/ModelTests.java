import java.math.BigInteger;
import java.util.ArrayList;
import java.util.List;
import java.util.regex.Matcher;
import java.util.regex.Pattern;

/** Long runs of calls, by lot from fixed seeds, against a second telling of the document that shares no code. */
public final class ModelTests {
    private static final String DIGITS = "0123456789";
    private long state;

    private ModelTests(long seed) {
        state = seed * 7919 + 17;
    }

    public static void main(String[] args) {
        for (int run = 0; run < 150; run++) {
            new ModelTests(run).run(run);
        }
        faultsOfAllPrefixes();
        allOdds();
        Due.end("ModelTests");
    }

    private int below(int m) {
        state = state * 6364136223846793005L + 1442695040888963407L;
        return (int) ((state >>> 33) % m);
    }

    private int from(int least, int most) {
        return least + below(most - least + 1);
    }

    /** Mostly a number from least to most, at times one just or far outside. */
    private int about(int least, int most) {
        switch (below(60)) {
            case 0:
                return least - 1;
            case 1:
                return most + 1;
            case 2:
                return below(2) == 0 ? Integer.MIN_VALUE : Integer.MAX_VALUE;
            case 3:
                return least;
            case 4:
                return most;
            default:
                return from(least, most);
        }
    }

    private void run(int run) {
        PaperInBin x = new PaperInBin();
        Model m = new Model();
        int calls = 0;
        while (calls < 500) {
            if (calls == 0 || below(12) == 0) {
                String text = statements(calls == 0);
                for (int i = 0; i < text.length() && calls < 500; i++) {
                    Due.is("run " + run + ": letter", x.letter(text.charAt(i)), m.letter(text.charAt(i)));
                    calls++;
                }
                Due.is("run " + run + ": office() of " + m.told, x.office(), m.office());
                calls++;
            }
            call("run " + run + ", call " + calls, x, m);
            calls++;
        }
    }

    private String statements(boolean first) {
        StringBuilder text = new StringBuilder();
        if (first) {
            int balls = below(4);
            for (int i = 0; i < balls; i++) {
                text.append('p').append("pbwslk".charAt(below(6))).append(from(1, 9)).append(below(10)).append(';');
            }
        }
        int more = from(first ? 1 : 0, 6);
        for (int i = 0; i < more; i++) {
            text.append(statement());
        }
        if (below(8) == 0 && text.length() > 0) {
            text.setCharAt(below(text.length()), "bwchfip;,+-0123456789xpbwslk".charAt(below(28)));
        }
        if (below(15) == 0 && text.length() > 0) {
            text.setLength(below(text.length()));
        }
        return text.toString();
    }

    private String statement() {
        StringBuilder text = new StringBuilder();
        switch (below(8)) {
            case 0:
            case 1:
                return text.append('b').append(from(1, below(3) == 0 ? 41 : 14)).append(',').append(from(1, 5))
                        .append(from(below(9) == 0 ? 0 : 1, 9)).append(';').toString();
            case 2:
                return text.append('w').append(from(5, below(2) == 0 ? 61 : 20)).append(';').toString();
            case 3:
                return text.append('c').append(from(10, below(2) == 0 ? 61 : 16)).append(';').toString();
            case 4:
                return text.append('h').append(below(10)).append(';').toString();
            case 5:
                return text.append('f').append(below(2) == 0 ? '+' : '-').append(below(below(9) == 0 ? 5 : 4))
                        .append(from(below(9) == 0 ? 0 : 1, 9)).append(';').toString();
            case 6:
                return text.append('i').append(below(10)).append(';').toString();
            default:
                return text.append('p').append("pbwslk".charAt(below(6))).append(from(1, 9)).append(below(10))
                        .append(';').toString();
        }
    }

    private void call(String of, PaperInBin x, Model m) {
        int ball = m.balls.isEmpty() ? about(0, 4) : below(25) == 0 ? about(0, 4) : below(m.balls.size());
        int pace = about(1, 9);
        int rise = about(-5, 15);
        int n = about(0, 15);
        int what = below(20) == 0 ? about(0, 4) : below(2);
        switch (below(24)) {
            case 0:
                Due.is(of + " letter", x.letter(rise * 20), m.letter(rise * 20));
                break;
            case 1:
                what = about(0, 5);
                Due.is(of + " ball", x.ball(ball, what), m.ball(ball, what));
                break;
            case 2:
                Due.is(of + " crumple", x.crumple(ball, n - 3), m.crumple(ball, n - 3));
                break;
            case 3:
            case 4:
                what = about(0, 4);
                Due.is(of + " fly", x.fly(ball, pace, rise, what), m.fly(ball, pace, rise, what));
                break;
            case 5:
            case 6:
                Due.is(of + " throwIt", x.throwIt(ball, pace, rise), m.throwIt(ball, pace, rise));
                break;
            case 7:
                n = about(1, 99);
                Due.is(of + " pass", x.pass(n), m.pass(n));
                break;
            case 8:
                Due.is(of + " clearBin", x.clearBin(), m.clearBin());
                break;
            case 9:
                Due.is(of + " good", x.good(ball, pace, rise), m.good(ball, pace, rise));
                break;
            case 10:
                Due.is(of + " best", x.best(ball, what), m.best(ball, what));
                break;
            case 11:
                Due.is(of + " off", x.off(ball, what), m.off(ball, what));
                break;
            case 12:
                Due.is(of + " when", x.when(ball, pace, rise), m.when(ball, pace, rise));
                break;
            case 13:
                Due.is(of + " crumpled", x.crumpled(ball, pace, rise), m.crumpled(ball, pace, rise));
                break;
            case 14:
                Due.is(of + " fills", x.fills(ball, pace, rise), m.fills(ball, pace, rise));
                break;
            case 15:
                Due.is(of + " whose", x.whose(pace, rise, n), m.whose(pace, rise, n));
                break;
            case 16:
                Due.is(of + " inRow", x.inRow(n, pace, what), m.inRow(n, pace, what));
                break;
            case 17:
                Due.is(of + " soMany", x.soMany(n, rise, pace, what), m.soMany(n, rise, pace, what));
                break;
            case 18:
                Due.is(of + " farthest", x.farthest(ball), m.farthest(ball));
                break;
            case 19:
                rows(of, x, m);
                break;
            case 20:
                Due.is(of + " lots", x.lots(2 * n, rise * 77777777), m.lots(2 * n, rise * 77777777));
                break;
            case 21:
                Due.is(of + " image", x.image(), m.image());
                break;
            case 22:
                if (below(3) == 0) {
                    Due.is(of + " on", x.on(), m.on());
                }
                break;
            default:
                what = about(0, 16);
                Due.is(of + " count", x.count(what), m.count(what));
        }
    }

    private void rows(String of, PaperInBin x, Model m) {
        for (int i = below(6); i > 0; i--) {
            int v = below(8) == 0 ? about(0, 9999) : 1000 * below(Math.max(1, m.balls.size())) + m.someIn(below(40));
            Due.is(of + " row", x.row(v), m.row(v));
        }
        if (below(3) > 0) {
            Due.is(of + " judge", x.judge(), m.judge());
        }
    }

    private static void faultsOfAllPrefixes() {
        String text = "b12,23;w40;c40;h5;f+23;i0;pw51;";
        for (int cut = 0; cut <= text.length(); cut++) {
            for (char c : "bwchfip,;+-05xs ".toCharArray()) {
                String told = text.substring(0, cut) + c + (cut % 2 == 0 ? text.substring(cut) : "");
                PaperInBin x = new PaperInBin();
                Model m = new Model();
                for (char l : told.toCharArray()) {
                    x.letter(l);
                    m.letter(l);
                }
                Due.is("office() of " + told, x.office(), m.office());
            }
        }
    }

    private static void allOdds() {
        Model m = new Model();
        for (int n = 0; n <= 15; n++) {
            for (int k = 0; k <= 9; k++) {
                PaperInBin x = new PaperInBin();
                for (int part = 0; part < 2; part++) {
                    Due.is("inRow(" + n + ", " + k + ", " + part + ")", x.inRow(n, k, part), m.inRow(n, k, part));
                    for (int in = 0; in <= n; in++) {
                        Due.is("soMany(" + n + ", " + in + ", " + k + ", " + part + ")",
                                x.soMany(n, in, k, part), m.soMany(n, in, k, part));
                    }
                }
            }
        }
    }

    /** The document once more, in other words: speed and objects don't count here. */
    private static final class Model {
        private static final String STATEMENT = "b\\d\\d?,\\d\\d;|w\\d\\d?;|c\\d\\d?;|h\\d;|f[+-]\\d\\d;|i\\d;|p[pbwslk]\\d\\d;";
        String told = "";
        int hand = 5, at = 12, wide = 2, rim = 3, fill = 0, wall = 40, ceiling = 40, puff = 0, period = 3;
        int second = 0, score = 0, thrown = 0;
        List<int[]> balls = new ArrayList<>();
        List<Integer> row = new ArrayList<>();
        int[] refusals = new int[7];
        Model picture;

        Model copy() {
            Model c = new Model();
            c.hand = hand;
            c.at = at;
            c.wide = wide;
            c.rim = rim;
            c.fill = fill;
            c.wall = wall;
            c.ceiling = ceiling;
            c.puff = puff;
            c.period = period;
            c.second = second;
            c.score = score;
            c.thrown = thrown;
            for (int[] ball : balls) {
                c.balls.add(ball.clone());
            }
            return c;
        }

        int refusal(int number) {
            refusals[-number]++;
            return number;
        }

        /** The first refusal of those told, each by whether it fits and its number; 0 if none fits. */
        int first(Object... told) {
            for (int i = 0; i < told.length; i += 2) {
                if ((Boolean) told[i]) {
                    return refusal((Integer) told[i + 1]);
                }
            }
            return 0;
        }

        boolean nobody(int ball) {
            return ball < 0 || ball >= balls.size();
        }

        int letter(int c) {
            int r = first(c < 0, -4, c > 255 || told.length() == 80, -6);
            if (r == 0) {
                told += (char) c;
            }
            return r != 0 ? r : told.length();
        }

        int office() {
            String text = told;
            told = "";
            for (int i = 0; i < text.length(); i++) {
                Matcher ahead = Pattern.compile("(" + STATEMENT + ")+", Pattern.DOTALL).matcher(text.substring(0, i + 1));
                if (!ahead.matches() && !ahead.hitEnd()) {
                    return -1000 - i;
                }
            }
            if (!text.endsWith(";")) {
                return -1000 - text.length();
            }
            Model tried = copy();
            int place = 0;
            String[] statements = text.split(";");
            for (String s : statements) {
                if (!tried.does(s)) {
                    return -2000 - place;
                }
                place += s.length() + 1;
            }
            hand = tried.hand;
            at = tried.at;
            wide = tried.wide;
            rim = tried.rim;
            fill = tried.fill;
            wall = tried.wall;
            ceiling = tried.ceiling;
            puff = tried.puff;
            period = tried.period;
            balls = tried.balls;
            return statements.length;
        }

        boolean does(String s) {
            int last = DIGITS.indexOf(s.charAt(s.length() - 1));
            int lastButOne = DIGITS.indexOf(s.charAt(s.length() - 2));
            switch (s.charAt(0)) {
                case 'b':
                    at = Integer.parseInt(s.substring(1, s.indexOf(',')));
                    wide = lastButOne;
                    rim = last;
                    break;
                case 'w':
                    wall = Integer.parseInt(s.substring(1));
                    break;
                case 'c':
                    ceiling = Integer.parseInt(s.substring(1));
                    break;
                case 'h':
                    hand = last;
                    break;
                case 'f':
                    puff = Integer.parseInt(s.substring(1, 3));
                    period = last;
                    break;
                case 'i':
                    fill = last;
                    break;
                default:
                    balls.add(new int[] {"pbwslk".indexOf(s.charAt(1)), lastButOne, last});
                    if (lastButOne == 0 || balls.size() > 5) {
                        return false;
                    }
            }
            return at >= 1 && at <= 40 && wide >= 1 && wide <= 5 && rim >= 1 && wall >= 5 && wall <= 60
                    && wall > at + wide - 1 && ceiling >= 10 && ceiling <= 60 && Math.abs(puff) <= 3 && period >= 1;
        }

        int ball(int ball, int what) {
            int r = first(nobody(ball), -1, what < 0 || what > 5, -2);
            if (r != 0) {
                return r;
            }
            int[] b = balls.get(ball);
            return what < 3 ? b[what] : what == 3 ? drag(b) : what == 4 ? (b[0] == 5 ? 3 : b[0] == 2 ? 2 : 1) : 10 + move(b);
        }

        static int drag(int[] b) {
            int plain = b[1] / 3 - b[2] / 4;
            plain = plain < 0 ? 0 : plain;
            return new int[] {plain, plain / 2, 0, plain + 1, plain + 2, 0}[b[0]];
        }

        int move(int[] b) {
            return new int[] {puff, puff, puff / 2, puff + puff, puff + puff, 0}[b[0]];
        }

        int crumple(int ball, int v) {
            int r = first(nobody(ball), -1, v < 0, -4, v > 9, -6);
            if (r != 0) {
                return r;
            }
            int was = balls.get(ball)[2];
            balls.get(ball)[2] = v;
            return was;
        }

        /** End, cell, steps, greatest height, what it struck. */
        int[] flight(int[] b, int pace, int rise) {
            int x = 0;
            int h = hand;
            int high = hand;
            int hit = 0;
            int fall = b[0] == 5 ? 3 : b[0] == 2 ? 2 : 1;
            for (int step = 1; step <= 60; step++) {
                int wasHigh = h;
                int wasRise = rise;
                x += pace;
                h += rise;
                if (h > ceiling) {
                    h = ceiling - (h - ceiling);
                    rise *= -1;
                    hit |= 1;
                }
                if (x > wall) {
                    x = wall - (x - wall);
                    pace = pace / 2 * -1;
                    hit |= 2;
                }
                if (x < 0) {
                    x = 0;
                    pace = 0;
                }
                high = h > high ? h : high;
                if (wasRise < 0 && wasHigh > rim && h <= rim) {
                    if (at <= x && x <= at + wide - 1) {
                        return new int[] {fill == 9 ? 3 : 0, x, step, high, hit};
                    }
                    if (hit < 4 && (x + 1 == at || x - wide == at)) {
                        hit += 4;
                        h = rim + 1;
                        pace *= -1;
                        rise = 1;
                    }
                }
                if (h <= 0) {
                    return new int[] {x < at ? 1 : 2, x, step, high, hit};
                }
                for (int i = drag(b); i > 0; i--) {
                    pace -= Integer.signum(pace);
                }
                rise -= fall;
                pace += (second + step / 4) % period == 0 ? move(b) : 0;
            }
            return new int[] {1, x, 60, high, hit};
        }

        boolean in(int ball, int pace, int rise) {
            return flight(balls.get(ball), pace, rise)[0] == 0;
        }

        int badThrow(int ball, int pace, int rise) {
            return first(nobody(ball), -1, pace < 1 || rise < -5, -4, pace > 9 || rise > 15, -6);
        }

        int fly(int ball, int pace, int rise, int what) {
            int r = first(nobody(ball), -1, pace < 1 || rise < -5, -4, pace > 9 || rise > 15, -6,
                    what < 0 || what > 4, -2);
            return r != 0 ? r : flight(balls.get(ball), pace, rise)[what];
        }

        int thrownNow(int ball, int pace, int rise) {
            int end = flight(balls.get(ball), pace, rise)[0];
            second++;
            thrown++;
            if (end == 0) {
                score++;
                fill++;
            }
            return end;
        }

        int throwIt(int ball, int pace, int rise) {
            int r = first(nobody(ball), -1, pace < 1 || rise < -5, -4, pace > 9 || rise > 15 || second == 9999, -6);
            return r != 0 ? r : thrownNow(ball, pace, rise);
        }

        int pass(int n) {
            int r = first(n < 1, -4, n > 99 || second > 9999 - n, -6);
            if (r == 0) {
                second += n;
            }
            return r != 0 ? r : second;
        }

        int clearBin() {
            int was = fill;
            fill = 0;
            return was;
        }

        int slips(int ball, int pace, int rise) {
            int many = 0;
            for (int i = 0; i < 9; i++) {
                many += in(ball, pace - 1 + i / 3, rise - 1 + i % 3) ? 1 : 0;
            }
            return many;
        }

        int good(int ball, int pace, int rise) {
            int r = badThrow(ball, pace, rise);
            return r != 0 ? r : slips(ball, pace, rise);
        }

        int best(int ball, int what) {
            int r = first(nobody(ball), -1, what < 0 || what > 1, -2);
            int most = 0;
            int by = 100;
            for (int i = 9 * 21 - 1; i >= 0 && r == 0; i--) {
                int many = slips(ball, 1 + i / 21, i % 21 - 5);
                if (many >= most) {
                    most = many;
                    by = 100 * (1 + i / 21) + i % 21;
                }
            }
            return r != 0 ? r : what == 0 ? by : most;
        }

        int off(int ball, int what) {
            int r = first(nobody(ball), -1, what < 0 || what > 1, -2);
            int many = 0;
            for (int i = 0; i < 9 * 21 && r == 0; i++) {
                int[] f = flight(balls.get(ball), 1 + i / 21, i % 21 - 5);
                many += f[0] == 0 && (what == 0 ? f[4] / 2 % 2 == 1 : f[4] == 0) ? 1 : 0;
            }
            return r != 0 ? r : many;
        }

        int when(int ball, int pace, int rise) {
            int r = badThrow(ball, pace, rise);
            for (int s = 0; s <= 8 && r == 0; s++) {
                Model later = copy();
                later.second += s;
                if (later.in(ball, pace, rise)) {
                    return s;
                }
            }
            return r != 0 ? r : -9;
        }

        int crumpled(int ball, int pace, int rise) {
            int r = badThrow(ball, pace, rise);
            int bits = 0;
            for (int t = 9; t >= 0 && r == 0; t--) {
                Model other = copy();
                other.balls.get(ball)[2] = t;
                bits = bits * 2 + (other.in(ball, pace, rise) ? 1 : 0);
            }
            return r != 0 ? r : bits;
        }

        int fills(int ball, int pace, int rise) {
            int r = badThrow(ball, pace, rise);
            int bits = 0;
            for (int f = 9; f >= 0 && r == 0; f--) {
                Model other = copy();
                other.fill = f;
                bits = bits * 2 + (other.in(ball, pace, rise) ? 1 : 0);
            }
            return r != 0 ? r : bits;
        }

        int whose(int pace, int rise, int cell) {
            int r = first(pace < 1 || rise < -5, -4, pace > 9 || rise > 15, -6);
            int bits = 0;
            for (int b = balls.size() - 1; b >= 0 && r == 0; b--) {
                bits = bits * 2 + (flight(balls.get(b), pace, rise)[1] == cell ? 1 : 0);
            }
            return r != 0 ? r : bits;
        }

        long inRow(int n, int k, int part) {
            int r = first(n < 0 || k < 0, -4, n > 15 || k > 9, -6, part < 0 || part > 1, -2);
            return r != 0 ? 4000000000000000000L - r : odds(n, n, k, part);
        }

        long soMany(int n, int m, int k, int part) {
            int r = first(n < 0 || m < 0 || k < 0, -4, n > 15 || m > n || k > 9, -6, part < 0 || part > 1, -2);
            return r != 0 ? 4000000000000000000L - r : odds(n, m, k, part);
        }

        /** Sheet by sheet: in how many of 9^n ways so many are in. */
        static long odds(int n, int m, int k, int part) {
            BigInteger[] ways = new BigInteger[n + 2];
            java.util.Arrays.fill(ways, BigInteger.ZERO);
            ways[0] = BigInteger.ONE;
            for (int sheet = 0; sheet < n; sheet++) {
                for (int in = n; in >= 0; in--) {
                    BigInteger missed = ways[in].multiply(BigInteger.valueOf(9 - k));
                    ways[in] = in == 0 ? missed : missed.add(ways[in - 1].multiply(BigInteger.valueOf(k)));
                }
            }
            BigInteger above = BigInteger.ZERO;
            for (int in = m; in <= n; in++) {
                above = above.add(ways[in]);
            }
            BigInteger below = BigInteger.valueOf(9).pow(n);
            BigInteger shared = above.gcd(below);
            return (part == 0 ? above : below).divide(shared).longValueExact();
        }

        int farthest(int ball) {
            int r = first(nobody(ball), -1);
            if (r != 0) {
                return r;
            }
            int far = -9;
            Model other = copy();
            for (other.at = 1; other.at <= 40 && other.at + wide - 1 < wall; other.at++) {
                for (int i = 0; i < 9 * 21 && far < other.at; i++) {
                    far = other.in(ball, 1 + i / 21, i % 21 - 5) ? other.at : far;
                }
            }
            return far;
        }

        int row(int v) {
            int r = first(v < 0, -4, v > 9999 || row.size() == 12, -6);
            if (r == 0) {
                row.add(v);
            }
            return r != 0 ? r : row.size();
        }

        int judge() {
            Model other = copy();
            int answer = -9;
            for (int i = row.size() - 1; i >= 0; i--) {
                other = copy();
                boolean allIn = true;
                for (int j = 0; j <= i && allIn; j++) {
                    int v = row.get(j);
                    allIn = v / 1000 < balls.size() && v % 1000 >= 100 && v % 100 <= 20
                            && other.thrownNow(v / 1000, v % 1000 / 100, v % 100 - 5) == 0;
                }
                answer = allIn ? answer : i;
            }
            row.clear();
            return answer;
        }

        int lots(int n, int z) {
            int r = first(n < 1, -4, n > 30, -6, balls.isEmpty(), -3);
            if (r != 0) {
                return r;
            }
            Model other = copy();
            other.score = 0;
            int[] most = {balls.size(), 9, 21};
            int[] drawn = new int[3];
            for (int i = 0; i < 3 * n; i++) {
                z = z * 1664525 + 1013904223;
                drawn[i % 3] = ((z << 1) >>> 1) / 256 % most[i % 3];
                if (i % 3 == 2) {
                    other.thrownNow(drawn[0], drawn[1] + 1, drawn[2] - 5);
                }
            }
            return other.score;
        }

        int image() {
            picture = copy();
            return second;
        }

        int on() {
            int r = first(picture == null, -3);
            if (r != 0) {
                return r;
            }
            Model p = picture.copy();
            hand = p.hand;
            at = p.at;
            wide = p.wide;
            rim = p.rim;
            fill = p.fill;
            wall = p.wall;
            ceiling = p.ceiling;
            puff = p.puff;
            period = p.period;
            second = p.second;
            score = p.score;
            thrown = p.thrown;
            balls = p.balls;
            return second;
        }

        int count(int what) {
            int[] all = {balls.size(), at, fill, second, score, thrown, wall, ceiling, row.size(), told.length(), -9,
                refusals[1], refusals[2], refusals[3], refusals[4], 0, refusals[6]};
            return what >= 0 && what < all.length ? all[what] : -9;
        }

        /** The n-th throw of the first ball that is in now, as told to a ROW; any if there is none. */
        int someIn(int n) {
            int by = 105 + n;
            for (int i = 0; i < 9 * 21 && n >= 0 && !balls.isEmpty(); i++) {
                if (in(0, 1 + i / 21, i % 21 - 5)) {
                    by = 100 * (1 + i / 21) + i % 21;
                    n--;
                }
            }
            return by;
        }
    }
}
