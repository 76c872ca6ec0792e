/** An office told in letters, with a bin, a wall, a ceiling and a fan, and balls of paper thrown in it. */
public final class PaperInBin {
    private static final int NOBODY = -1;
    private static final int OTHER = -2;
    private static final int STATE = -3;
    private static final int BELOW = -4;
    private static final int ROOM = -6;
    private static final int FINE = 0;
    private static final int NONE = -9;
    private static final long LONG_REFUSALS = 4000000000000000000L;

    private static final int LEAST_PACE = 1;
    private static final int MOST_PACE = 9;
    private static final int LEAST_RISE = -5;
    private static final int MOST_RISE = 15;
    private static final int MOST_TIGHT = 9;
    private static final int MOST_FILL = 9;
    private static final int MOST_AT = 40;
    private static final int MOST_BALLS = 5;
    private static final int MOST_LETTERS = 80;
    private static final int MOST_LETTER = 255;
    private static final int MOST_IN_ROW = 12;
    private static final int MOST_TOLD_THROW = 9999;
    private static final int MOST_SECOND = 9999;
    private static final int MOST_PASSED = 99;
    private static final int MOST_LOTS = 30;
    private static final int MOST_SHEETS = 15;
    private static final int NINE = 9;
    private static final int SECONDS_LOOKED_AT = 9;
    private static final int MOST_STEPS = 60;

    private static final int IN = 0;
    private static final int SHORT = 1;
    private static final int LONG = 2;
    private static final int TOP = 3;
    private static final int FLYING = -1;

    private static final int CEILING_STRUCK = 1;
    private static final int WALL_STRUCK = 2;
    private static final int RIM_STRUCK = 4;

    private static final int PLAIN = 0;
    private static final int BANDED = 1;
    private static final int WET = 2;
    private static final int SHEET = 3;
    private static final int LOOSE = 4;
    private static final int LEADEN = 5;

    private final Office now = new Office();
    private final Office mind = new Office();
    private final Office kept = new Office();
    private boolean imageTaken;
    private final Text text = new Text();
    private final Flight flight = new Flight();
    private final Lot lot = new Lot();
    private final Odds odds = new Odds();
    private final int[] toldThrows = new int[MOST_IN_ROW];
    private int toldCount;
    private final int[] refusals = new int[7];

    public PaperInBin() {
    }

    public int letter(int c) {
        if (c < 0) {
            return refuse(BELOW);
        }
        if (c > MOST_LETTER || !text.hasRoom()) {
            return refuse(ROOM);
        }
        return text.add(c);
    }

    public int office() {
        mind.become(now);
        int told = text.tell(mind);
        if (told > 0) {
            now.become(mind);
        }
        text.clear();
        return told;
    }

    public int ball(int ball, int what) {
        if (!now.hasBall(ball)) {
            return refuse(NOBODY);
        }
        switch (what) {
            case 0:
                return now.kindOf(ball);
            case 1:
                return now.sizeOf(ball);
            case 2:
                return now.tightOf(ball);
            case 3:
                return now.dragOf(ball);
            case 4:
                return now.fallOf(ball);
            case 5:
                return 10 + now.fanOf(ball);
            default:
                return refuse(OTHER);
        }
    }

    public int crumple(int ball, int v) {
        if (!now.hasBall(ball)) {
            return refuse(NOBODY);
        }
        if (v < 0) {
            return refuse(BELOW);
        }
        if (v > MOST_TIGHT) {
            return refuse(ROOM);
        }
        int before = now.tightOf(ball);
        now.setTight(ball, v);
        return before;
    }

    public int fly(int ball, int pace, int rise, int what) {
        int refusal = refusalOfThrow(ball, pace, rise);
        if (refusal != FINE) {
            return refuse(refusal);
        }
        if (what < 0 || what > 4) {
            return refuse(OTHER);
        }
        flight.run(now, ball, pace, rise);
        switch (what) {
            case 0:
                return flight.end;
            case 1:
                return flight.cell;
            case 2:
                return flight.steps;
            case 3:
                return flight.greatest;
            default:
                return flight.struck;
        }
    }

    public int throwIt(int ball, int pace, int rise) {
        int refusal = refusalOfThrow(ball, pace, rise);
        if (refusal != FINE) {
            return refuse(refusal);
        }
        if (now.second >= MOST_SECOND) {
            return refuse(ROOM);
        }
        return thrown(now, ball, pace, rise);
    }

    public int pass(int n) {
        if (n < 1) {
            return refuse(BELOW);
        }
        if (n > MOST_PASSED || now.second + n > MOST_SECOND) {
            return refuse(ROOM);
        }
        now.second += n;
        return now.second;
    }

    public int clearBin() {
        int before = now.fill;
        now.fill = 0;
        return before;
    }

    public int good(int ball, int pace, int rise) {
        int refusal = refusalOfThrow(ball, pace, rise);
        return refusal != FINE ? refuse(refusal) : goodWithSlips(ball, pace, rise);
    }

    public int best(int ball, int what) {
        int refusal = refusalOfBallAndPart(ball, what);
        if (refusal != FINE) {
            return refuse(refusal);
        }
        int most = -1;
        int by = 0;
        for (int pace = LEAST_PACE; pace <= MOST_PACE; pace++) {
            for (int rise = LEAST_RISE; rise <= MOST_RISE; rise++) {
                int howMany = goodWithSlips(ball, pace, rise);
                if (howMany > most) {
                    most = howMany;
                    by = 100 * pace + rise - LEAST_RISE;
                }
            }
        }
        return what == 0 ? by : most;
    }

    public int off(int ball, int what) {
        int refusal = refusalOfBallAndPart(ball, what);
        if (refusal != FINE) {
            return refuse(refusal);
        }
        int howMany = 0;
        for (int pace = LEAST_PACE; pace <= MOST_PACE; pace++) {
            for (int rise = LEAST_RISE; rise <= MOST_RISE; rise++) {
                if (endsIn(now, ball, pace, rise) && struckAsAsked(what)) {
                    howMany++;
                }
            }
        }
        return howMany;
    }

    public int when(int ball, int pace, int rise) {
        int refusal = refusalOfThrow(ball, pace, rise);
        if (refusal != FINE) {
            return refuse(refusal);
        }
        mind.become(now);
        for (int later = 0; later < SECONDS_LOOKED_AT; later++) {
            mind.second = now.second + later;
            if (endsIn(mind, ball, pace, rise)) {
                return later;
            }
        }
        return NONE;
    }

    public int crumpled(int ball, int pace, int rise) {
        int refusal = refusalOfThrow(ball, pace, rise);
        if (refusal != FINE) {
            return refuse(refusal);
        }
        mind.become(now);
        int bits = 0;
        for (int tight = 0; tight <= MOST_TIGHT; tight++) {
            mind.setTight(ball, tight);
            if (endsIn(mind, ball, pace, rise)) {
                bits |= 1 << tight;
            }
        }
        return bits;
    }

    public int fills(int ball, int pace, int rise) {
        int refusal = refusalOfThrow(ball, pace, rise);
        if (refusal != FINE) {
            return refuse(refusal);
        }
        mind.become(now);
        int bits = 0;
        for (int fill = 0; fill <= MOST_FILL; fill++) {
            mind.fill = fill;
            if (endsIn(mind, ball, pace, rise)) {
                bits |= 1 << fill;
            }
        }
        return bits;
    }

    public int whose(int pace, int rise, int cell) {
        int refusal = refusalOfPaceAndRise(pace, rise);
        if (refusal != FINE) {
            return refuse(refusal);
        }
        int bits = 0;
        for (int ball = 0; ball < now.ballCount; ball++) {
            flight.run(now, ball, pace, rise);
            if (flight.cell == cell) {
                bits |= 1 << ball;
            }
        }
        return bits;
    }

    public long inRow(int n, int k, int part) {
        if (n < 0 || k < 0) {
            return refuseLong(BELOW);
        }
        if (n > MOST_SHEETS || k > NINE) {
            return refuseLong(ROOM);
        }
        return partOfOdds(n, n, k, part);
    }

    public long soMany(int n, int m, int k, int part) {
        if (n < 0 || m < 0 || k < 0) {
            return refuseLong(BELOW);
        }
        if (n > MOST_SHEETS || m > n || k > NINE) {
            return refuseLong(ROOM);
        }
        return partOfOdds(n, m, k, part);
    }

    public int farthest(int ball) {
        if (!now.hasBall(ball)) {
            return refuse(NOBODY);
        }
        mind.become(now);
        for (int at = MOST_AT; at >= 1; at--) {
            if (mind.setBin(at, now.wide, now.rim) && someThrowEndsIn(mind, ball)) {
                return at;
            }
        }
        return NONE;
    }

    public int row(int v) {
        if (v < 0) {
            return refuse(BELOW);
        }
        if (v > MOST_TOLD_THROW || toldCount >= MOST_IN_ROW) {
            return refuse(ROOM);
        }
        toldThrows[toldCount] = v;
        toldCount++;
        return toldCount;
    }

    public int judge() {
        mind.become(now);
        int first = NONE;
        for (int i = 0; i < toldCount && i < MOST_IN_ROW && first == NONE; i++) {
            if (!toldThrowIsIn(toldThrows[i])) {
                first = i;
            }
        }
        toldCount = 0;
        return first;
    }

    public int lots(int n, int z) {
        if (n < 1) {
            return refuse(BELOW);
        }
        if (n > MOST_LOTS) {
            return refuse(ROOM);
        }
        if (now.ballCount == 0) {
            return refuse(STATE);
        }
        mind.become(now);
        lot.seed = z;
        for (int i = 0; i < n; i++) {
            int ball = lot.drawBelow(mind.ballCount);
            int pace = lot.drawBelow(MOST_PACE) + LEAST_PACE;
            int rise = lot.drawBelow(MOST_RISE - LEAST_RISE + 1) + LEAST_RISE;
            thrown(mind, ball, pace, rise);
        }
        return mind.score - now.score;
    }

    public int image() {
        kept.become(now);
        imageTaken = true;
        return now.second;
    }

    public int on() {
        if (!imageTaken) {
            return refuse(STATE);
        }
        now.become(kept);
        return now.second;
    }

    public int count(int what) {
        if (what >= 11 && what <= 16) {
            return refusals[what - 10];
        }
        switch (what) {
            case 0:
                return now.ballCount;
            case 1:
                return now.at;
            case 2:
                return now.fill;
            case 3:
                return now.second;
            case 4:
                return now.score;
            case 5:
                return now.thrown;
            case 6:
                return now.wall;
            case 7:
                return now.ceiling;
            case 8:
                return toldCount;
            case 9:
                return text.length;
            default:
                return NONE;
        }
    }

    private int refuse(int refusal) {
        int place = -refusal;
        if (place >= 0 && place < refusals.length) {
            refusals[place]++;
        }
        return refusal;
    }

    private long refuseLong(int refusal) {
        return LONG_REFUSALS - refuse(refusal);
    }

    private long partOfOdds(int n, int m, int k, int part) {
        if (part != 0 && part != 1) {
            return refuseLong(OTHER);
        }
        odds.atLeast(n, m, k);
        return part == 0 ? odds.above : odds.below;
    }

    private int refusalOfThrow(int ball, int pace, int rise) {
        return now.hasBall(ball) ? refusalOfPaceAndRise(pace, rise) : NOBODY;
    }

    private int refusalOfPaceAndRise(int pace, int rise) {
        if (pace < LEAST_PACE || rise < LEAST_RISE) {
            return BELOW;
        }
        return pace > MOST_PACE || rise > MOST_RISE ? ROOM : FINE;
    }

    private int refusalOfBallAndPart(int ball, int what) {
        if (!now.hasBall(ball)) {
            return NOBODY;
        }
        return what == 0 || what == 1 ? FINE : OTHER;
    }

    private boolean endsIn(Office where, int ball, int pace, int rise) {
        flight.run(where, ball, pace, rise);
        return flight.end == IN;
    }

    private int thrown(Office where, int ball, int pace, int rise) {
        flight.run(where, ball, pace, rise);
        where.noteThrow(flight.end);
        return flight.end;
    }

    private int goodWithSlips(int ball, int pace, int rise) {
        int howMany = 0;
        for (int slippedPace = pace - 1; slippedPace <= pace + 1; slippedPace++) {
            for (int slippedRise = rise - 1; slippedRise <= rise + 1; slippedRise++) {
                if (endsIn(now, ball, slippedPace, slippedRise)) {
                    howMany++;
                }
            }
        }
        return howMany;
    }

    /** Of the flight flown last: off the wall (what 0), or straight (1). */
    private boolean struckAsAsked(int what) {
        return what == 0 ? (flight.struck & WALL_STRUCK) != 0 : flight.struck == 0;
    }

    private boolean someThrowEndsIn(Office where, int ball) {
        for (int pace = LEAST_PACE; pace <= MOST_PACE; pace++) {
            for (int rise = LEAST_RISE; rise <= MOST_RISE; rise++) {
                if (endsIn(where, ball, pace, rise)) {
                    return true;
                }
            }
        }
        return false;
    }

    /** Throws a told throw in mind; one that is none is not in. */
    private boolean toldThrowIsIn(int told) {
        int ball = told / 1000;
        int pace = told / 100 % 10;
        int rise = told % 100 + LEAST_RISE;
        return refusalOfThrow(ball, pace, rise) == FINE && thrown(mind, ball, pace, rise) == IN;
    }

    /** All that an image holds: the office, its balls, the second and what was thrown. */
    private static final class Office {
        private int hand = 5;
        private int at = 12;
        private int wide = 2;
        private int rim = 3;
        private int fill = 0;
        private int wall = 40;
        private int ceiling = 40;
        private int puff = 0;
        private int period = 3;
        private int second = 0;
        private int score = 0;
        private int thrown = 0;
        private int ballCount = 0;
        private final int[] kinds = new int[MOST_BALLS];
        private final int[] sizes = new int[MOST_BALLS];
        private final int[] tights = new int[MOST_BALLS];

        private void become(Office other) {
            hand = other.hand;
            at = other.at;
            wide = other.wide;
            rim = other.rim;
            fill = other.fill;
            wall = other.wall;
            ceiling = other.ceiling;
            puff = other.puff;
            period = other.period;
            second = other.second;
            score = other.score;
            thrown = other.thrown;
            ballCount = other.ballCount;
            for (int i = 0; i < MOST_BALLS; i++) {
                kinds[i] = other.kinds[i];
                sizes[i] = other.sizes[i];
                tights[i] = other.tights[i];
            }
        }

        private boolean hasBall(int ball) {
            return ball >= 0 && ball < ballCount && ball < MOST_BALLS;
        }

        private int kindOf(int ball) {
            return hasBall(ball) ? kinds[ball] : PLAIN;
        }

        private int sizeOf(int ball) {
            return hasBall(ball) ? sizes[ball] : 0;
        }

        private int tightOf(int ball) {
            return hasBall(ball) ? tights[ball] : 0;
        }

        private void setTight(int ball, int tight) {
            if (hasBall(ball)) {
                tights[ball] = tight;
            }
        }

        private int dragOf(int ball) {
            int plain = Math.max(0, sizeOf(ball) / 3 - tightOf(ball) / 4);
            switch (kindOf(ball)) {
                case BANDED:
                    return plain / 2;
                case SHEET:
                    return plain + 1;
                case LOOSE:
                    return plain + 2;
                case WET:
                case LEADEN:
                    return 0;
                default:
                    return plain;
            }
        }

        private int fallOf(int ball) {
            switch (kindOf(ball)) {
                case WET:
                    return 2;
                case LEADEN:
                    return 3;
                default:
                    return 1;
            }
        }

        /** By how much the fan moves the ball's pace when it blows. */
        private int fanOf(int ball) {
            switch (kindOf(ball)) {
                case WET:
                    return puff / 2;
                case SHEET:
                case LOOSE:
                    return 2 * puff;
                case LEADEN:
                    return 0;
                default:
                    return puff;
            }
        }

        private boolean blowsIn(int someSecond) {
            return period > 0 && someSecond % period == 0;
        }

        private boolean isOverBin(int cell) {
            return cell >= at && cell < at + wide;
        }

        private boolean isBesideBin(int cell) {
            return cell == at - 1 || cell == at + wide;
        }

        private void noteThrow(int end) {
            second++;
            thrown++;
            if (end == IN) {
                score++;
                fill++;
            }
        }

        private boolean setBin(int newAt, int newWide, int newRim) {
            if (!isWithin(newAt, 1, MOST_AT) || !isWithin(newWide, 1, 5) || !isWithin(newRim, 1, 9)
                    || wall < newAt + newWide) {
                return false;
            }
            at = newAt;
            wide = newWide;
            rim = newRim;
            return true;
        }

        private boolean setWall(int newWall) {
            if (!isWithin(newWall, 5, 60) || newWall < at + wide) {
                return false;
            }
            wall = newWall;
            return true;
        }

        private boolean setCeiling(int newCeiling) {
            if (!isWithin(newCeiling, 10, 60)) {
                return false;
            }
            ceiling = newCeiling;
            return true;
        }

        private boolean setHand(int newHand) {
            if (!isWithin(newHand, 0, 9)) {
                return false;
            }
            hand = newHand;
            return true;
        }

        private boolean setFan(int newPuff, int newPeriod) {
            if (!isWithin(newPuff, -3, 3) || !isWithin(newPeriod, 1, 9)) {
                return false;
            }
            puff = newPuff;
            period = newPeriod;
            return true;
        }

        private boolean setFill(int newFill) {
            if (!isWithin(newFill, 0, MOST_FILL)) {
                return false;
            }
            fill = newFill;
            return true;
        }

        private boolean addBall(int kind, int size, int tight) {
            if (ballCount < 0 || ballCount >= MOST_BALLS
                    || !isWithin(size, 1, 9) || !isWithin(tight, 0, MOST_TIGHT)) {
                return false;
            }
            kinds[ballCount] = kind;
            sizes[ballCount] = size;
            tights[ballCount] = tight;
            ballCount++;
            return true;
        }

        private static boolean isWithin(int number, int least, int greatest) {
            return number >= least && number <= greatest;
        }
    }

    /** One flight at a time: where the ball is, and how it ended. */
    private static final class Flight {
        private int end;
        private int cell;
        private int steps;
        private int greatest;
        private int struck;
        private int height;
        private int pace;
        private int rise;

        private void run(Office where, int ball, int startPace, int startRise) {
            end = FLYING;
            cell = 0;
            steps = 0;
            height = where.hand;
            greatest = height;
            struck = 0;
            pace = startPace;
            rise = startRise;
            int drag = where.dragOf(ball);
            int fall = where.fallOf(ball);
            int fan = where.fanOf(ball);
            while (end == FLYING && steps < MOST_STEPS) {
                steps++;
                step(where);
                pace = nearerZero(pace, drag);
                rise -= fall;
                if (where.blowsIn(where.second + steps / 4)) {
                    pace += fan;
                }
            }
            if (end == FLYING) {
                end = SHORT;
            }
        }

        private void step(Office where) {
            int heightAhead = height;
            // The rise that the step was made with counts for the rim, not the one that the ceiling turned about.
            boolean goesDown = rise < 0;
            cell += pace;
            height += rise;
            strikeCeilingAndWall(where);
            greatest = Math.max(greatest, height);
            if (goesDown && heightAhead > where.rim && height <= where.rim) {
                comeDownToRim(where);
            }
            if (end == FLYING && height <= 0) {
                end = cell < where.at ? SHORT : LONG;
            }
        }

        private void strikeCeilingAndWall(Office where) {
            if (height > where.ceiling) {
                height = 2 * where.ceiling - height;
                rise = -rise;
                struck |= CEILING_STRUCK;
            }
            if (cell > where.wall) {
                cell = 2 * where.wall - cell;
                pace = -pace / 2;
                struck |= WALL_STRUCK;
            }
            if (cell < 0) {
                cell = 0;
                pace = 0;
            }
        }

        private void comeDownToRim(Office where) {
            if (where.isOverBin(cell)) {
                end = where.fill >= MOST_FILL ? TOP : IN;
            } else if (where.isBesideBin(cell) && (struck & RIM_STRUCK) == 0) {
                height = where.rim + 1;
                pace = -pace;
                rise = 1;
                struck |= RIM_STRUCK;
            }
        }

        private static int nearerZero(int number, int less) {
            return number > 0 ? Math.max(0, number - less) : Math.min(0, number + less);
        }
    }

    /** The letters that came, and the statements read from them. */
    private static final class Text {
        private final int[] letters = new int[MOST_LETTERS];
        private int length;
        private int place;
        private int word;
        private int first;
        private int second;
        private int third;

        private boolean hasRoom() {
            return length < MOST_LETTERS;
        }

        private int add(int c) {
            if (length >= 0 && length < MOST_LETTERS) {
                letters[length] = c;
                length++;
            }
            return length;
        }

        private void clear() {
            length = 0;
        }

        /** Tells the office all statements: how many, or the fault; with a fault the office may be half told. */
        private int tell(Office office) {
            int statements = countStatements();
            if (statements <= 0) {
                return -1000 - place;
            }
            place = 0;
            for (int i = 0; i < statements; i++) {
                int start = place;
                if (!readStatement() || !tellStatement(office)) {
                    return -2000 - start;
                }
            }
            return statements;
        }

        /** How many statements the letters are; 0 if they are none, the place then being the fault's. */
        private int countStatements() {
            place = 0;
            int statements = 0;
            while (statements < MOST_LETTERS && place < length) {
                if (!readStatement()) {
                    return 0;
                }
                statements++;
            }
            return statements;
        }

        private boolean tellStatement(Office office) {
            switch (word) {
                case 'b':
                    return office.setBin(first, second, third);
                case 'w':
                    return office.setWall(first);
                case 'c':
                    return office.setCeiling(first);
                case 'h':
                    return office.setHand(first);
                case 'f':
                    return office.setFan(first, second);
                case 'i':
                    return office.setFill(first);
                default:
                    return office.addBall(first, second, third);
            }
        }

        /** Reads a statement; if there is none, the place is that of the first letter which can't go on. */
        private boolean readStatement() {
            word = letterHere();
            switch (word) {
                case 'b':
                    place++;
                    return readFirst(2) && passLetter(',') && readTwoDigits() && passLetter(';');
                case 'w':
                case 'c':
                    place++;
                    return readFirst(2) && passLetter(';');
                case 'h':
                case 'i':
                    place++;
                    return readFirst(1) && passLetter(';');
                case 'f':
                    place++;
                    return readFan() && passLetter(';');
                case 'p':
                    place++;
                    return readKind() && readTwoDigits() && passLetter(';');
                default:
                    return false;
            }
        }

        private boolean readFirst(int mostDigits) {
            first = readNumber(mostDigits);
            return first >= 0;
        }

        private boolean readFan() {
            int sign = letterHere();
            if (sign != '+' && sign != '-') {
                return false;
            }
            place++;
            if (!readFirst(1)) {
                return false;
            }
            if (sign == '-') {
                first = -first;
            }
            second = readNumber(1);
            return second >= 0;
        }

        private boolean readKind() {
            first = kindOfLetter(letterHere());
            if (first < 0) {
                return false;
            }
            place++;
            return true;
        }

        private boolean readTwoDigits() {
            second = readNumber(1);
            if (second < 0) {
                return false;
            }
            third = readNumber(1);
            return third >= 0;
        }

        /** A number of so many digits at most, at least one; -1 if no digit is here. */
        private int readNumber(int mostDigits) {
            int number = -1;
            int c = letterHere();
            for (int i = 0; i < mostDigits && c >= '0' && c <= '9'; i++) {
                number = 10 * Math.max(0, number) + c - '0';
                place++;
                c = letterHere();
            }
            return number;
        }

        private boolean passLetter(int c) {
            if (letterHere() != c) {
                return false;
            }
            place++;
            return true;
        }

        /** The letter at the place; -1 at the end. */
        private int letterHere() {
            return place >= 0 && place < length && place < MOST_LETTERS ? letters[place] : -1;
        }

        private static int kindOfLetter(int c) {
            switch (c) {
                case 'p':
                    return PLAIN;
                case 'b':
                    return BANDED;
                case 'w':
                    return WET;
                case 's':
                    return SHEET;
                case 'l':
                    return LOOSE;
                case 'k':
                    return LEADEN;
                default:
                    return -1;
            }
        }
    }

    /** Draws from a seed. */
    private static final class Lot {
        private int seed;

        private int drawBelow(int m) {
            seed = seed * 1664525 + 1013904223;
            int drawn = (seed & 0x7fffffff) / 256;
            return m > 0 ? drawn % m : 0;
        }
    }

    /** A fraction in least terms. */
    private static final class Odds {
        private long above;
        private long below;

        /** That at least m of n are in, k of nine each: at most 9 to the 15th, which a long holds. */
        private void atLeast(int n, int m, int k) {
            above = 0;
            below = power(NINE, n);
            for (int in = m; in <= n; in++) {
                above += choices(n, in) * power(k, in) * power(NINE - k, n - in);
            }
            long divisor = commonDivisor(above, below);
            if (divisor > 1) {
                above /= divisor;
                below /= divisor;
            }
        }

        private static long power(long base, int exponent) {
            long product = 1;
            for (int i = 0; i < exponent; i++) {
                product *= base;
            }
            return product;
        }

        private static long choices(int n, int in) {
            long ways = 1;
            for (int i = 1; i <= in; i++) {
                ways = ways * (n - in + i) / i;
            }
            return ways;
        }

        private static long commonDivisor(long a, long b) {
            long greater = a;
            long lesser = b;
            for (int i = 0; i < 1000 && lesser != 0; i++) {
                long rest = greater % lesser;
                greater = lesser;
                lesser = rest;
            }
            return greater;
        }
    }
}
