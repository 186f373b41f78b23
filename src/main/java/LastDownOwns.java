import java.util.NoSuchElementException;

public final class LastDownOwns {
    public static final int NONE = -1;

    private static final int NOT_SO = -2;
    private static final int ONE_IS_HIGHER = -3;
    private static final int MISSING = -3;
    private static final int LAW_WRONG = -10000;

    private static final int MOST_CLIMBERS = 7;
    private static final int NOBODY = 7;
    private static final int LEAST_TOP = 2;
    private static final int MOST_TOP = 9;
    private static final int MOST_PACE = 9;
    private static final int MOST_STEPS = 3;
    private static final int NO_WAY = 0;
    private static final int UP = 1;
    private static final int DOWN = 2;

    private static final int FAR_HOURS = 99;
    private static final int NEAR_HOURS = 60;

    private final Mountain now = new Mountain();
    private final Rule rule = new Rule();
    private final Rule otherRule = new Rule();
    private final Text text = new Text();
    private final Numbers told = new Numbers();
    private final Past past = new Past();
    private final Outlook outlook = new Outlook(now, rule, told);
    private final Plans plans = new Plans(now, rule, told);
    private final Standing standing = new Standing(now, told);
    private final Rumours rumours = new Rumours(now, told);
    private final Sights sights = new Sights(told);
    private final Games games = new Games(told);

    public LastDownOwns() {
    }

    // ---- climbers

    public int sign(int v) {
        return text.addFour(v);
    }

    public boolean end(int n) {
        return text.cutTo(n);
    }

    public int climbers() {
        int wrong = text.wrongAsClimbers(MOST_CLIMBERS - now.size);
        int lines = 0;
        if (wrong == Text.FINE) {
            for (int p = 0; p < text.size; p += 2) {
                now.addClimber(text.digitAt(p));
                lines++;
            }
            if (lines > 0) {
                past.forgetAll();
            }
        }
        text.clear();
        return wrong == Text.FINE ? lines : NONE - wrong;
    }

    public int rule() {
        int wrong = otherRule.read(text);
        text.clear();
        if (wrong != Text.FINE) {
            return NONE - wrong;
        }
        rule.copyFrom(otherRule);
        return 0;
    }

    public int top(int v) {
        past.note(now);
        return noteIfDone(now.changeTop(v));
    }

    public int climber(int climber, int what) throws NoSuchElementException {
        if (!now.has(climber)) {
            throw new NoSuchElementException("no such climber");
        }
        switch (what) {
            case 0:
                return now.pace[climber];
            case 1:
                return now.height[climber];
            case 2:
                return now.way[climber];
            case 3:
                return now.wait[climber];
            case 4:
                return now.built[climber];
            case 5:
                return rule.stepsOf(now, climber);
            default:
                throw new NoSuchElementException("nothing such is told of a climber");
        }
    }

    public int sheet(int kind, int n, int f, int step) {
        if (outside(kind, 0, 3) || n > MOST_CLIMBERS) {
            return NONE;
        }
        if (kind == 3) {
            now.takePaces(kind, 0, f, step);
            return MISSING;
        }
        if (n < 0) {
            return NOT_SO;
        }
        now.takePaces(kind, n, f, step);
        return now.sumOf(now.pace);
    }

    // ---- hours, setting out, turning back

    public int hours(int n) {
        if (outside(n, 0, NEAR_HOURS)) {
            return NONE;
        }
        past.note(now);
        int downs = now.passHours(rule, n);
        if (n > 0) {
            past.keepNoted();
        }
        told.tellTwo(downs, now.howManyOnWay());
        return now.owner;
    }

    public int starts(int climber) {
        past.note(now);
        return noteIfDone(now.setOut(climber));
    }

    public int backs(int climber) {
        past.note(now);
        return noteIfDone(now.turnRound(climber));
    }

    public int waits(int climber, int n) {
        past.note(now);
        return noteIfDone(now.waitMore(climber, n));
    }

    public int slips(int climber, int n) {
        past.note(now);
        return noteIfDone(now.slipDown(climber, n));
    }

    public int day() {
        int wrong = text.wrongAsDay();
        if (wrong != Text.FINE) {
            text.clear();
            return NONE - wrong;
        }
        past.note(now);
        int done = 0;
        boolean stopped = false;
        for (int p = 0; p < text.size && !stopped; p += Text.signsOfAct(text.at(p))) {
            stopped = actAt(p) < 0;
            done += stopped ? 0 : 1;
        }
        text.clear();
        if (done > 0) {
            past.keepNoted();
        }
        told.tellTwo(stopped ? 1 : 0, now.hour);
        return done;
    }

    public int undo() {
        return past.takeBack(now);
    }

    private int noteIfDone(int answer) {
        if (answer >= 0) {
            past.keepNoted();
        }
        return answer;
    }

    private int actAt(int p) {
        int first = text.digitAt(p + 1);
        switch (text.at(p)) {
            case 'n':
                return now.passHours(rule, first);
            case 's':
                return now.setOut(first);
            case 'b':
                return now.turnRound(first);
            case 'w':
                return now.waitMore(first, text.digitAt(p + 2));
            case 'f':
                return now.slipDown(first, text.digitAt(p + 2));
            case 't':
                return now.changeTop(first);
            default:
                return NONE;
        }
    }

    // ---- who owns it

    public int later(int n) {
        return outside(n, 0, FAR_HOURS) ? NONE : outlook.ownerBehind(n);
    }

    public int when(int climber) {
        return now.has(climber) ? outlook.firstOwned(climber) : NONE;
    }

    public int shares(int n) {
        return outside(n, 1, FAR_HOURS) ? NONE : outlook.ownedBy(n);
    }

    public int order(int n) {
        return outside(n, 1, FAR_HOURS) ? NONE : outlook.downInOrder(n);
    }

    public int empty() {
        return outlook.firstEmpty();
    }

    public int high(int climber, int n) {
        if (!now.has(climber) || outside(n, 0, FAR_HOURS)) {
            return NONE;
        }
        return outlook.heightBehind(climber, n);
    }

    public int comes(int climber) {
        return now.has(climber) ? outlook.firstDown(climber) : NONE;
    }

    public int crowd(int n) {
        return outside(n, 0, FAR_HOURS) ? NONE : outlook.thickest(n);
    }

    public int changes(int n) {
        return outside(n, 1, FAR_HOURS) ? NONE : outlook.ownersChange(n);
    }

    public int ways(int n) {
        return outside(n, 1, FAR_HOURS) ? NONE : outlook.heightsGone(n);
    }

    // ---- so that one owns it

    public int peaks(int climber, int n) {
        if (!now.has(climber) || outside(n, 1, NEAR_HOURS)) {
            return NONE;
        }
        return plans.bestTop(climber, n);
    }

    public int bides(int climber, int n) {
        if (!now.has(climber) || outside(n, 0, NEAR_HOURS)) {
            return NONE;
        }
        return plans.fewestToWait(climber, n);
    }

    public int rivals(int climber, int n) {
        if (!now.has(climber) || outside(n, 0, NEAR_HOURS)) {
            return NONE;
        }
        return plans.fewestToStay(climber, n);
    }

    public int goes(int n) {
        return outside(n, 1, NEAR_HOURS) ? NONE : plans.bestToSetOut(n);
    }

    public int ousts(int climber, int n) {
        if (!now.has(climber) || outside(n, 0, NEAR_HOURS)) {
            return NONE;
        }
        return plans.fewestToSetOut(climber, n);
    }

    // ---- who stands where

    public int lawyers(int v) {
        return outside(v, 0, MOST_TOP) ? NONE : standing.fewestLawyers(v);
    }

    public int rope() {
        return standing.longestRope();
    }

    public int line() {
        return standing.fromTheHighest();
    }

    public int nearest() {
        return standing.nearestTwo();
    }

    public int stones(int v) {
        return outside(v, 0, 999) ? NONE : standing.justStones(v);
    }

    public int parties() {
        return standing.evenParties();
    }

    // ---- who it was

    public int heard(int what, int v) {
        return rumours.hear(what, v);
    }

    public int forget() {
        return rumours.drop();
    }

    public int fits() {
        return rumours.fitting();
    }

    public int asks() {
        return rumours.bestQuestion();
    }

    // ---- laws of going

    public int saw(int p, int s) {
        return sights.see(p, s);
    }

    public int denies() {
        return sights.drop();
    }

    public int laws() {
        return sights.fittingLaws();
    }

    public int looks() {
        return sights.bestPace();
    }

    // ---- walks by chance, a polite bend

    public int strays(int h, int p) {
        if (outside(h, 0, now.top) || outside(p, 0, 10)) {
            return NONE;
        }
        return games.chanceOfStile(h, p, now.top);
    }

    public int bend(int a, int b) {
        if (outside(a, 1, Games.FARTHEST) || outside(b, 1, Games.FARTHEST)) {
            return NONE;
        }
        return games.bestAtBend(a, b);
    }

    // ---- rests, rules, years

    public int rests(int v) {
        return outside(v, 0, 20) ? NONE : games.restingPairs(v);
    }

    public int law() {
        int wrong = otherRule.read(text);
        text.clear();
        return wrong != Text.FINE ? LAW_WRONG - wrong : plans.compareRules(otherRule);
    }

    public int years(int seed, int n) {
        return outside(n, 1, NEAR_HOURS) ? NONE : plans.drawnYears(seed, n);
    }

    // ---- kept

    public boolean keep(int i) {
        return past.keepAs(i, now);
    }

    public boolean again(int i) {
        return past.bringBack(i, now);
    }

    public int count(int what) {
        switch (what) {
            case 0:
                return now.size;
            case 1:
                return now.top;
            case 2:
                return now.owner;
            case 3:
                return now.hour;
            case 4:
                return now.downs;
            case 5:
                return now.bitsOnWay();
            case 6:
                return now.sumOf(now.height);
            case 7:
                return now.sumOf(now.built);
            case 8:
                return rumours.size;
            case 9:
                return sights.size;
            case 10:
                return past.size;
            case 11:
                return told.size;
            case 12:
                return text.size;
            case 13:
                return now.sumOf(now.wait);
            case 14:
                return now.sumOf(now.pace);
            case 15:
                return now.bitsWaiting();
            default:
                return NONE;
        }
    }

    public long row(int i) throws NoSuchElementException {
        if (!told.has(i)) {
            throw new NoSuchElementException("no such number in the row");
        }
        return told.numbers[i];
    }

    private static boolean outside(int v, int least, int most) {
        return v < least || v > most;
    }

    private static int within(int v, int least, int most) {
        return v < least ? least : v > most ? most : v;
    }

    /** The ROW. */
    private static final class Numbers {
        static final int MOST = 12;
        final long[] numbers = new long[MOST];
        int size = 0;

        boolean has(int i) {
            return i >= 0 && i < size && i < MOST;
        }

        void clear() {
            size = 0;
        }

        void add(long number) {
            if (size >= 0 && size < MOST) {
                numbers[size] = number;
                size++;
            }
        }

        void tellOne(long a) {
            clear();
            add(a);
        }

        void tellTwo(long a, long b) {
            tellOne(a);
            add(b);
        }

        void tellEach(int[] values, int n) {
            clear();
            for (int i = 0; i < n && i < values.length; i++) {
                add(values[i]);
            }
        }
    }

    /** THE TEXT, and where it goes wrong as CLIMBERS or as A DAY. */
    private static final class Text {
        static final int FINE = -1;
        static final int MOST = 80;
        static final int MOST_OF_CLIMBERS = 13;
        static final int MOST_OF_DAY = 60;
        static final int NO_SIGN = -1;
        private final int[] signs = new int[MOST];
        int size = 0;

        int addFour(int v) {
            if (size < 0 || size + 4 > MOST) {
                return NONE;
            }
            for (int i = 0; i < 4; i++) {
                signs[size + i] = (v >>> (24 - 8 * i)) & 255;
            }
            size += 4;
            return size;
        }

        boolean cutTo(int n) {
            if (n < 0 || n > size) {
                return false;
            }
            size = n;
            return true;
        }

        void clear() {
            size = 0;
        }

        int at(int p) {
            return p >= 0 && p < size && p < MOST ? signs[p] : NO_SIGN;
        }

        int digitAt(int p) {
            return at(p) - '0';
        }

        static boolean isDigit(int sign) {
            return sign >= '0' && sign <= '9';
        }

        int wrongAsClimbers(int room) {
            if (size == 0) {
                return FINE;
            }
            for (int p = 0; p < size && p < MOST_OF_CLIMBERS; p++) {
                boolean good = p % 2 == 0 ? isDigit(at(p)) && p / 2 < room : at(p) == ';';
                if (!good) {
                    return p;
                }
            }
            if (size > MOST_OF_CLIMBERS) {
                return MOST_OF_CLIMBERS;
            }
            return size % 2 == 0 ? size : FINE;
        }

        int wrongAsDay() {
            int begin = 0;
            for (int p = 0; p < size && p < MOST_OF_DAY; p++) {
                if (p == begin + signsOfAct(at(begin))) {
                    begin = p;
                }
                if (!goodInAct(at(p), p - begin)) {
                    return p;
                }
            }
            if (size > MOST_OF_DAY) {
                return MOST_OF_DAY;
            }
            return size == 0 || size == begin + signsOfAct(at(begin)) ? FINE : size;
        }

        private static boolean goodInAct(int sign, int place) {
            if (place == 0) {
                return sign == 'n' || sign == 's' || sign == 'b' || sign == 'w' || sign == 'f' || sign == 't';
            }
            return isDigit(sign) && (place == 1 || sign != '0');
        }

        static int signsOfAct(int sign) {
            return sign == 'w' || sign == 'f' ? 3 : 2;
        }
    }

    /** THE MOUNTAIN with its CLIMBERS, and what can be done there. */
    private static final class Mountain {
        final int[] pace = new int[MOST_CLIMBERS];
        final int[] height = new int[MOST_CLIMBERS];
        final int[] way = new int[MOST_CLIMBERS];
        final int[] wait = new int[MOST_CLIMBERS];
        final int[] built = new int[MOST_CLIMBERS];
        private final int[] steps = new int[MOST_CLIMBERS];
        /** How many HEIGHTS each went in the latest HOUR. */
        final int[] went = new int[MOST_CLIMBERS];
        int size = 0;
        int top = 5;
        int owner = NOBODY;
        int hour = 0;
        int downs = 0;
        /** Who came DOWN in the latest HOUR (bits). */
        int downNow = 0;

        boolean has(int who) {
            return who >= 0 && who < size && who < MOST_CLIMBERS;
        }

        void addClimber(int newPace) {
            if (size < 0 || size >= MOST_CLIMBERS) {
                return;
            }
            pace[size] = newPace;
            height[size] = 0;
            way[size] = NO_WAY;
            wait[size] = 0;
            built[size] = 0;
            size++;
        }

        void takePaces(int kind, int n, int f, int step) {
            for (int i = 0; i < MOST_CLIMBERS && i < size; i++) {
                pace[i] = i < n ? within(entryAs(kind, f + i * step), 0, MOST_PACE) : 0;
            }
        }

        private static int entryAs(int kind, int entry) {
            return kind == 0 ? (byte) entry : kind == 1 ? (short) entry : entry;
        }

        void copyFrom(Mountain other) {
            size = other.size;
            top = other.top;
            owner = other.owner;
            hour = other.hour;
            downs = other.downs;
            downNow = 0;
            for (int i = 0; i < MOST_CLIMBERS; i++) {
                pace[i] = other.pace[i];
                height[i] = other.height[i];
                way[i] = other.way[i];
                wait[i] = other.wait[i];
                built[i] = other.built[i];
            }
        }

        int changeTop(int v) {
            if (outside(v, LEAST_TOP, MOST_TOP)) {
                return NONE;
            }
            if (v == top) {
                return NOT_SO;
            }
            if (highest() > v) {
                return ONE_IS_HIGHER;
            }
            int was = top;
            top = v;
            return 10 + was;
        }

        int setOut(int who) {
            if (!has(who)) {
                return NONE;
            }
            if (way[who] != NO_WAY) {
                return NOT_SO;
            }
            way[who] = UP;
            return howManyOnWay();
        }

        int turnRound(int who) {
            if (!has(who)) {
                return NONE;
            }
            if (way[who] == NO_WAY) {
                return NOT_SO;
            }
            way[who] = way[who] == UP ? DOWN : UP;
            return way[who];
        }

        int waitMore(int who, int n) {
            if (!has(who) || outside(n, 1, 9)) {
                return NONE;
            }
            wait[who] = Math.min(99, wait[who] + n);
            return wait[who];
        }

        int slipDown(int who, int n) {
            if (!has(who) || outside(n, 1, 9)) {
                return NONE;
            }
            if (way[who] == NO_WAY) {
                return NOT_SO;
            }
            height[who] = Math.max(0, height[who] - n);
            way[who] = DOWN;
            return height[who];
        }

        /** Lets n HOURS go by; tells how many came DOWN. */
        int passHours(Rule rule, int n) {
            int came = 0;
            for (int i = 0; i < n; i++) {
                passHour(rule);
                came += Integer.bitCount(downNow);
            }
            return came;
        }

        void passHour(Rule rule) {
            // All STEPS are taken from what is ahead of the HOUR, so they come before the first move.
            for (int i = 0; i < MOST_CLIMBERS && i < size; i++) {
                boolean walks = way[i] != NO_WAY && wait[i] == 0;
                steps[i] = walks ? rule.stepsOf(this, i) : 0;
            }
            downNow = 0;
            for (int i = 0; i < MOST_CLIMBERS && i < size; i++) {
                move(i);
                if (height[i] == top && way[i] == UP) {
                    way[i] = DOWN;
                }
                if (height[i] == 0 && way[i] == DOWN) {
                    comeDown(i);
                }
            }
            if (has(owner)) {
                built[owner] = Math.min(999, built[owner] + 1);
            }
            hour++;
        }

        private void move(int who) {
            if (!has(who)) {
                return;
            }
            int from = height[who];
            if (wait[who] > 0) {
                wait[who]--;
            } else if (way[who] == UP) {
                height[who] = Math.min(top, from + steps[who]);
            } else if (way[who] == DOWN) {
                height[who] = Math.max(0, from - steps[who]);
            }
            went[who] = Math.abs(height[who] - from);
        }

        private void comeDown(int who) {
            if (!has(who)) {
                return;
            }
            way[who] = NO_WAY;
            owner = who;
            downs = Math.min(9999, downs + 1);
            downNow |= 1 << who;
        }

        /** What a letter of THE RULE is for one. */
        int letter(int sign, int who) {
            if (!has(who)) {
                return 0;
            }
            switch (sign) {
                case 'p':
                    return pace[who];
                case 'h':
                    return height[who];
                case 'u':
                    return way[who] == UP ? 1 : 0;
                case 'o':
                    return owner == who ? 1 : 0;
                case 'k':
                    return othersAt(height[who], who);
                case 'b':
                    return othersDownBelow(height[who], who);
                case 'n':
                    return hour % 7;
                default:
                    return 0;
            }
        }

        private int othersAt(int h, int who) {
            int n = 0;
            for (int i = 0; i < MOST_CLIMBERS && i < size; i++) {
                if (i != who && way[i] != NO_WAY && height[i] == h) {
                    n++;
                }
            }
            return n;
        }

        private int othersDownBelow(int h, int who) {
            int n = 0;
            for (int i = 0; i < MOST_CLIMBERS && i < size; i++) {
                if (i != who && way[i] == DOWN && height[i] < h) {
                    n++;
                }
            }
            return n;
        }

        int highest() {
            int most = 0;
            for (int i = 0; i < MOST_CLIMBERS && i < size; i++) {
                most = Math.max(most, height[i]);
            }
            return most;
        }

        int bitsOnWay() {
            int bits = 0;
            for (int i = 0; i < MOST_CLIMBERS && i < size; i++) {
                if (way[i] != NO_WAY) {
                    bits |= 1 << i;
                }
            }
            return bits;
        }

        int bitsWaiting() {
            int bits = 0;
            for (int i = 0; i < MOST_CLIMBERS && i < size; i++) {
                if (wait[i] > 0) {
                    bits |= 1 << i;
                }
            }
            return bits;
        }

        int allBits() {
            return size >= 0 && size <= MOST_CLIMBERS ? (1 << size) - 1 : 0;
        }

        int howManyOnWay() {
            return Integer.bitCount(bitsOnWay());
        }

        int sumOf(int[] values) {
            int sum = 0;
            for (int i = 0; i < size && i < values.length; i++) {
                sum += values[i];
            }
            return sum;
        }

        int sumOfSet(int[] values, int set) {
            int sum = 0;
            for (int i = 0; i < size && i < values.length; i++) {
                if ((set >> i & 1) == 1) {
                    sum += values[i];
                }
            }
            return sum;
        }
    }

    /** What can be undone, and what is kept under a number: each page is what undo() brings back. */
    private static final class Past {
        private static final int MOST = 12;
        private static final int NUMBERS = 2;
        private static final int PAGE = 4 + 4 * MOST_CLIMBERS;
        private final int[][] pages = new int[MOST][PAGE];
        private final int[][] kept = new int[NUMBERS][PAGE];
        private final boolean[] isKept = new boolean[NUMBERS];
        private final int[] noted = new int[PAGE];
        private int oldest = 0;
        int size = 0;

        void note(Mountain mountain) {
            write(mountain, noted);
        }

        void keepNoted() {
            if (size < MOST) {
                size++;
            } else {
                oldest = (oldest + 1) % MOST;
            }
            int place = (oldest + size - 1) % MOST;
            if (place >= 0 && place < MOST) {
                System.arraycopy(noted, 0, pages[place], 0, PAGE);
            }
        }

        int takeBack(Mountain mountain) {
            int place = (oldest + size - 1) % MOST;
            if (size < 1 || place < 0 || place >= MOST) {
                return NONE;
            }
            read(pages[place], mountain);
            size--;
            return size;
        }

        boolean keepAs(int i, Mountain mountain) {
            if (i < 0 || i >= NUMBERS) {
                return false;
            }
            write(mountain, kept[i]);
            isKept[i] = true;
            return true;
        }

        boolean bringBack(int i, Mountain mountain) {
            if (i < 0 || i >= NUMBERS || !isKept[i]) {
                return false;
            }
            read(kept[i], mountain);
            size = 0;
            return true;
        }

        /** CLIMBERS came: no page tells of them. */
        void forgetAll() {
            size = 0;
            for (int i = 0; i < NUMBERS; i++) {
                isKept[i] = false;
            }
        }

        private static void write(Mountain mountain, int[] page) {
            if (page.length < PAGE) {
                return;
            }
            page[0] = mountain.top;
            page[1] = mountain.owner;
            page[2] = mountain.hour;
            page[3] = mountain.downs;
            for (int i = 0; i < MOST_CLIMBERS; i++) {
                page[4 + 4 * i] = mountain.height[i];
                page[5 + 4 * i] = mountain.way[i];
                page[6 + 4 * i] = mountain.wait[i];
                page[7 + 4 * i] = mountain.built[i];
            }
        }

        private static void read(int[] page, Mountain mountain) {
            if (page.length < PAGE) {
                return;
            }
            mountain.top = page[0];
            mountain.owner = page[1];
            mountain.hour = page[2];
            mountain.downs = page[3];
            for (int i = 0; i < MOST_CLIMBERS; i++) {
                mountain.height[i] = page[4 + 4 * i];
                mountain.way[i] = page[5 + 4 * i];
                mountain.wait[i] = page[6 + 4 * i];
                mountain.built[i] = page[7 + 4 * i];
            }
        }
    }

    /** A RULE, its things ahead of what joins them, so that it is worked out without looking back. */
    private static final class Rule {
        private static final int MOST = 40;
        private static final int DEEPEST = 4;
        /** Codes from here on are signs; those below are numbers. */
        private static final int SIGNS = 1000;
        /** The - ahead of a thing; above 255, so that no sign of a text can be taken for it. */
        private static final int NEGATE = 256;
        private final int[] codes = new int[MOST];
        private final int[] values = new int[MOST];
        private int size = 0;
        /** While it is read: signs that join wait here till what binds more is joined. */
        private final int[] waiting = new int[MOST];
        private int waitingSize = 0;
        private int depth = 0;
        /** While it is read: on which depths a comparison stands already (bits). */
        private int compared = 0;
        private boolean wantsThing = true;
        /** While it is read: digits of the NUMBER that stands last; 0 if something else does. */
        private int digits = 0;

        Rule() {
            beNone();
        }

        /** As long as nothing is told, one goes 1+p/4. */
        private void beNone() {
            size = 0;
            addNumber(1);
            addSign('p');
            addNumber(4);
            addSign('/');
            addSign('+');
        }

        void copyFrom(Rule other) {
            size = other.size;
            System.arraycopy(other.codes, 0, codes, 0, MOST);
        }

        int stepsOf(Mountain mountain, int who) {
            int filled = 0;
            for (int i = 0; i < size && i < MOST; i++) {
                int sign = codes[i] - SIGNS;
                if (sign < 0 || isLetter(sign)) {
                    if (filled >= 0 && filled < MOST) {
                        values[filled] = sign < 0 ? codes[i] : mountain.letter(sign, who);
                        filled++;
                    }
                } else if (sign == NEGATE) {
                    if (filled >= 1 && filled <= MOST) {
                        values[filled - 1] = -values[filled - 1];
                    }
                } else if (filled >= 2 && filled <= MOST) {
                    filled--;
                    values[filled - 1] = joined(sign, values[filled - 1], values[filled]);
                }
            }
            return filled > 0 ? within(values[0], 0, MOST_STEPS) : 0;
        }

        private static int joined(int sign, int a, int b) {
            switch (sign) {
                case '+':
                    return a + b;
                case '-':
                    return a - b;
                case '*':
                    return a * b;
                case '/':
                    return b == 0 ? 0 : a / b;
                case '<':
                    return a < b ? 1 : 0;
                case '>':
                    return a > b ? 1 : 0;
                case '=':
                    return a == b ? 1 : 0;
                default:
                    return 0;
            }
        }

        /** Becomes what the text tells: Text.FINE, or where the text goes wrong; then it is not to be used. */
        int read(Text text) {
            if (text.size == 0) {
                beNone();
                return Text.FINE;
            }
            beginReading();
            for (int p = 0; p < text.size && p < MOST; p++) {
                int sign = text.at(p);
                if (!(wantsThing ? takesThing(sign) : takesBehindThing(sign))) {
                    return p;
                }
            }
            if (text.size > MOST) {
                return MOST;
            }
            if (wantsThing || depth > 0) {
                return text.size;
            }
            release(1);
            return Text.FINE;
        }

        private void beginReading() {
            size = 0;
            waitingSize = 0;
            depth = 0;
            compared = 0;
            wantsThing = true;
            digits = 0;
        }

        private boolean takesThing(int sign) {
            if (sign == '-') {
                hold(NEGATE);
                return true;
            }
            if (sign == '(') {
                return opens();
            }
            if (Text.isDigit(sign)) {
                addNumber(sign - '0');
                digits = 1;
            } else if (isLetter(sign)) {
                addSign(sign);
                digits = 0;
            } else {
                return false;
            }
            wantsThing = false;
            return true;
        }

        private boolean takesBehindThing(int sign) {
            if (Text.isDigit(sign)) {
                return lengthensNumber(sign - '0');
            }
            if (sign == ')') {
                return closes();
            }
            int strength = strengthOf(sign);
            if (strength < 1 || strength == 1 && (compared >> depth & 1) == 1) {
                return false;
            }
            if (strength == 1) {
                compared |= 1 << depth;
            }
            release(strength);
            hold(sign);
            wantsThing = true;
            return true;
        }

        private boolean opens() {
            if (depth >= DEEPEST) {
                return false;
            }
            depth++;
            compared &= ~(1 << depth);
            hold('(');
            return true;
        }

        private boolean closes() {
            if (depth < 1) {
                return false;
            }
            release(1);
            waitingSize = Math.max(0, waitingSize - 1);
            depth--;
            digits = 0;
            return true;
        }

        private boolean lengthensNumber(int digit) {
            if (digits < 1 || digits > 2 || size < 1 || size > MOST) {
                return false;
            }
            codes[size - 1] = codes[size - 1] * 10 + digit;
            digits++;
            return true;
        }

        private void addNumber(int number) {
            if (size >= 0 && size < MOST) {
                codes[size] = number;
                size++;
            }
        }

        private void addSign(int sign) {
            addNumber(SIGNS + sign);
        }

        private void hold(int sign) {
            if (waitingSize >= 0 && waitingSize < MOST) {
                waiting[waitingSize] = sign;
                waitingSize++;
            }
        }

        /** Joins what waits and binds at least so much, back to the last open bracket. */
        private void release(int strength) {
            for (int i = waitingSize - 1; i >= 0 && i < MOST; i--) {
                if (strengthOf(waiting[i]) < strength) {
                    return;
                }
                addSign(waiting[i]);
                waitingSize = i;
            }
        }

        private static int strengthOf(int sign) {
            switch (sign) {
                case '<':
                case '>':
                case '=':
                    return 1;
                case '+':
                case '-':
                    return 2;
                case '*':
                case '/':
                    return 3;
                case NEGATE:
                    return 4;
                default:
                    return 0;
            }
        }

        private static boolean isLetter(int sign) {
            return sign == 'p' || sign == 'h' || sign == 'u' || sign == 'o' || sign == 'k' || sign == 'b'
                || sign == 'n';
        }
    }

    /** What is asked of HOURS to come, as it goes on by itself. */
    private static final class Outlook {
        private final Mountain now;
        private final Mountain ahead = new Mountain();
        private final Rule rule;
        private final Numbers told;
        private final int[] each = new int[MOST_CLIMBERS];
        private final int[] crowds = new int[MOST_TOP + 1];

        Outlook(Mountain now, Rule rule, Numbers told) {
            this.now = now;
            this.rule = rule;
            this.told = told;
        }

        private void clearEach() {
            for (int i = 0; i < MOST_CLIMBERS; i++) {
                each[i] = 0;
            }
        }

        int ownerBehind(int n) {
            ahead.copyFrom(now);
            int came = ahead.passHours(rule, n);
            told.tellTwo(came, ahead.howManyOnWay());
            return ahead.owner;
        }

        int firstOwned(int who) {
            ahead.copyFrom(now);
            int first = NOT_SO;
            int often = 0;
            for (int t = 0; t <= FAR_HOURS; t++) {
                if (t > 0) {
                    ahead.passHour(rule);
                }
                if (ahead.owner == who) {
                    first = often == 0 ? t : first;
                    often++;
                }
            }
            if (often > 0) {
                told.tellOne(often);
            }
            return first;
        }

        int ownedBy(int n) {
            ahead.copyFrom(now);
            clearEach();
            int nobodys = 0;
            for (int t = 1; t <= n; t++) {
                ahead.passHour(rule);
                if (ahead.has(ahead.owner)) {
                    each[ahead.owner]++;
                } else {
                    nobodys++;
                }
            }
            told.tellEach(each, now.size);
            return nobodys;
        }

        int downInOrder(int n) {
            ahead.copyFrom(now);
            told.clear();
            int came = 0;
            for (int t = 1; t <= n; t++) {
                ahead.passHour(rule);
                for (int i = 0; i < MOST_CLIMBERS; i++) {
                    if ((ahead.downNow >> i & 1) == 1) {
                        told.add(i);
                        came++;
                    }
                }
            }
            return came;
        }

        int firstEmpty() {
            ahead.copyFrom(now);
            for (int t = 0; t <= FAR_HOURS; t++) {
                if (t > 0) {
                    ahead.passHour(rule);
                }
                if (ahead.bitsOnWay() == 0) {
                    told.tellOne(ahead.owner);
                    return t;
                }
            }
            return NOT_SO;
        }

        int heightBehind(int who, int n) {
            if (!now.has(who)) {
                return NONE;
            }
            ahead.copyFrom(now);
            ahead.passHours(rule, n);
            told.tellTwo(ahead.way[who], ahead.built[who]);
            return ahead.height[who];
        }

        int firstDown(int who) {
            ahead.copyFrom(now);
            int first = NOT_SO;
            int often = 0;
            for (int t = 1; t <= FAR_HOURS; t++) {
                ahead.passHour(rule);
                if ((ahead.downNow >> who & 1) == 1) {
                    first = often == 0 ? t : first;
                    often++;
                }
            }
            if (often > 0) {
                told.tellOne(often);
            }
            return first;
        }

        int thickest(int n) {
            ahead.copyFrom(now);
            told.clear();
            int most = 0;
            for (int t = 0; t <= n; t++) {
                if (t > 0) {
                    ahead.passHour(rule);
                }
                countCrowds();
                for (int h = 0; h <= MOST_TOP; h++) {
                    if (crowds[h] > most) {
                        most = crowds[h];
                        told.tellTwo(h, t);
                    }
                }
            }
            return most;
        }

        private void countCrowds() {
            for (int h = 0; h <= MOST_TOP; h++) {
                crowds[h] = 0;
            }
            for (int i = 0; i < MOST_CLIMBERS && i < ahead.size; i++) {
                int h = ahead.height[i];
                if (ahead.way[i] != NO_WAY && h >= 0 && h <= MOST_TOP) {
                    crowds[h]++;
                }
            }
        }

        int ownersChange(int n) {
            ahead.copyFrom(now);
            int often = 0;
            int run = 0;
            int longest = 0;
            int longestOf = NOBODY;
            for (int t = 1; t <= n; t++) {
                int before = ahead.owner;
                ahead.passHour(rule);
                if (ahead.owner != before) {
                    often++;
                    run = 0;
                }
                run = ahead.owner == NOBODY ? 0 : run + 1;
                if (run > longest) {
                    longest = run;
                    longestOf = ahead.owner;
                }
            }
            told.tellTwo(longest, longestOf);
            return often;
        }

        int heightsGone(int n) {
            ahead.copyFrom(now);
            clearEach();
            for (int t = 1; t <= n; t++) {
                ahead.passHour(rule);
                for (int i = 0; i < MOST_CLIMBERS && i < now.size; i++) {
                    each[i] += ahead.went[i];
                }
            }
            told.tellEach(each, now.size);
            return now.sumOf(each);
        }
    }

    /** What is asked of HOURS to come, if something is done now or another RULE holds. */
    private static final class Plans {
        private static final int LONGEST_BIDE = 30;
        private static final int STAY = 99;
        private static final int LAW_HOURS = 20;
        private final Mountain now;
        private final Mountain ahead = new Mountain();
        private final Rule rule;
        private final Numbers told;
        private int drawn = 0;

        Plans(Mountain now, Rule rule, Numbers told) {
            this.now = now;
            this.rule = rule;
            this.told = told;
        }

        /** Behind how many of n HOURS one is OWNER, from where ahead stands. */
        private int hoursOwned(int who, int n) {
            int owned = 0;
            for (int t = 1; t <= n; t++) {
                ahead.passHour(rule);
                if (ahead.owner == who) {
                    owned++;
                }
            }
            return owned;
        }

        /** Who is OWNER behind n HOURS, from where ahead stands. */
        private int ownerIn(int n) {
            // Where nobody has a WAY, nobody comes DOWN any more.
            for (int t = 0; t < n && ahead.bitsOnWay() != 0; t++) {
                ahead.passHour(rule);
            }
            return ahead.owner;
        }

        int bestTop(int who, int n) {
            int best = NONE;
            int most = NONE;
            int asItIs = 0;
            for (int v = Math.max(LEAST_TOP, now.highest()); v <= MOST_TOP; v++) {
                ahead.copyFrom(now);
                ahead.top = v;
                int owned = hoursOwned(who, n);
                if (owned > most) {
                    most = owned;
                    best = v;
                }
                asItIs = v == now.top ? owned : asItIs;
            }
            told.tellTwo(most, asItIs);
            return best;
        }

        int fewestToWait(int who, int n) {
            int fewest = NOT_SO;
            int often = 0;
            for (int w = 0; w <= LONGEST_BIDE; w++) {
                ahead.copyFrom(now);
                if (ahead.has(who)) {
                    ahead.wait[who] += w;
                }
                if (ownerIn(n) == who) {
                    fewest = often == 0 ? w : fewest;
                    often++;
                }
            }
            if (often > 0) {
                told.tellOne(often);
            }
            return fewest;
        }

        int fewestToStay(int who, int n) {
            int others = now.bitsOnWay() & ~(1 << who);
            for (int many = 0; many < MOST_CLIMBERS; many++) {
                for (int set = 0; set <= others; set++) {
                    if ((set & ~others) != 0 || Integer.bitCount(set) != many) {
                        continue;
                    }
                    letStay(set);
                    if (ownerIn(n) == who) {
                        told.tellOne(set);
                        return many;
                    }
                }
            }
            return NOT_SO;
        }

        private void letStay(int set) {
            ahead.copyFrom(now);
            for (int i = 0; i < MOST_CLIMBERS; i++) {
                ahead.wait[i] += (set >> i & 1) == 1 ? STAY : 0;
            }
        }

        int bestToSetOut(int n) {
            int best = NOT_SO;
            int most = NONE;
            for (int i = 0; i < MOST_CLIMBERS && i < now.size; i++) {
                if (now.way[i] != NO_WAY) {
                    continue;
                }
                ahead.copyFrom(now);
                ahead.setOut(i);
                int owned = hoursOwned(i, n);
                if (owned > most) {
                    most = owned;
                    best = i;
                }
            }
            if (best >= 0) {
                told.tellOne(most);
            }
            return best;
        }

        int fewestToSetOut(int who, int n) {
            int free = now.allBits() & ~now.bitsOnWay();
            for (int many = 0; many <= MOST_CLIMBERS; many++) {
                for (int set = 0; set <= free; set++) {
                    if ((set & ~free) != 0 || Integer.bitCount(set) != many) {
                        continue;
                    }
                    letSetOut(set);
                    if (ownerIn(n) != who) {
                        told.tellOne(set);
                        return many;
                    }
                }
            }
            return NOT_SO;
        }

        private void letSetOut(int set) {
            ahead.copyFrom(now);
            for (int i = 0; i < MOST_CLIMBERS; i++) {
                if ((set >> i & 1) == 1) {
                    ahead.setOut(i);
                }
            }
        }

        int compareRules(Rule other) {
            ahead.copyFrom(now);
            int byRule = ahead.passHours(rule, LAW_HOURS);
            int ownerByRule = ahead.owner;
            ahead.copyFrom(now);
            int byOther = ahead.passHours(other, LAW_HOURS);
            told.tellTwo(byOther, byRule);
            told.add(ahead.owner);
            told.add(ownerByRule);
            return byOther - byRule;
        }

        int drawnYears(int seed, int n) {
            ahead.copyFrom(now);
            drawn = seed;
            int came = 0;
            for (int i = 0; i < n; i++) {
                int what = draw(4);
                if (what < 2) {
                    came += ahead.passHours(rule, 1);
                } else if (ahead.size > 0) {
                    drawnAct(what);
                }
            }
            told.tellTwo(came, ahead.howManyOnWay());
            return ahead.owner;
        }

        private void drawnAct(int what) {
            int who = draw(ahead.size);
            if (what == 2) {
                ahead.setOut(who);
            } else {
                ahead.slipDown(who, draw(3) + 1);
            }
        }

        private int draw(int n) {
            drawn = drawn * 1103515245 + 12345;
            return n > 0 ? (drawn >>> 16) % n : 0;
        }
    }

    /** Who stands by whom now. */
    private static final class Standing {
        private final Mountain now;
        private final Numbers told;
        /** By CLIMBERS: HEIGHTS near enough to one, or how long a rope he can lead. */
        private final int[] each = new int[MOST_CLIMBERS];

        Standing(Mountain now, Numbers told) {
            this.now = now;
            this.told = told;
        }

        int fewestLawyers(int v) {
            for (int i = 0; i < MOST_CLIMBERS && i < now.size; i++) {
                each[i] = heightsNear(now.height[i], v);
            }
            int best = 0;
            int fewest = MOST_TOP + 2;
            int sets = 1 << within(now.top + 1, 0, MOST_TOP + 1);
            for (int set = 0; set < sets; set++) {
                int many = Integer.bitCount(set);
                if (many < fewest && reachesAll(set)) {
                    fewest = many;
                    best = set;
                }
            }
            told.tellOne(best);
            return fewest;
        }

        private int heightsNear(int height, int v) {
            int bits = 0;
            for (int h = 0; h <= MOST_TOP; h++) {
                if (Math.abs(h - height) <= v) {
                    bits |= 1 << h;
                }
            }
            return bits;
        }

        private boolean reachesAll(int set) {
            for (int i = 0; i < MOST_CLIMBERS && i < now.size; i++) {
                if ((each[i] & set) == 0) {
                    return false;
                }
            }
            return true;
        }

        int longestRope() {
            int longest = 0;
            for (int i = Math.min(now.size, MOST_CLIMBERS) - 1; i >= 0; i--) {
                each[i] = 1 + longestBehind(i);
                longest = Math.max(longest, each[i]);
            }
            told.clear();
            int left = longest;
            int below = NONE;
            // The first who can lead what is left keeps the row the least.
            for (int i = 0; i < MOST_CLIMBERS && i < now.size; i++) {
                if (left > 0 && each[i] == left && now.height[i] > below) {
                    told.add(i);
                    below = now.height[i];
                    left--;
                }
            }
            return longest;
        }

        private int longestBehind(int who) {
            int longest = 0;
            for (int i = who + 1; i < MOST_CLIMBERS && i < now.size; i++) {
                if (now.has(who) && now.has(i) && now.height[i] > now.height[who]) {
                    longest = Math.max(longest, each[i]);
                }
            }
            return longest;
        }

        int fromTheHighest() {
            told.clear();
            for (int h = MOST_TOP; h >= 0; h--) {
                for (int i = 0; i < MOST_CLIMBERS && i < now.size; i++) {
                    if (now.height[i] == h) {
                        told.add(i);
                    }
                }
            }
            return now.size;
        }

        int nearestTwo() {
            int nearest = NOT_SO;
            for (int i = 0; i < MOST_CLIMBERS && i < now.size; i++) {
                for (int j = i + 1; j < MOST_CLIMBERS && j < now.size; j++) {
                    int far = Math.abs(now.height[i] - now.height[j]);
                    if (nearest < 0 || far < nearest) {
                        nearest = far;
                        told.tellTwo(i, j);
                    }
                }
            }
            return nearest;
        }

        int justStones(int v) {
            int best = 0;
            int fewest = NOT_SO;
            int often = 0;
            for (int set = 0; set <= now.allBits(); set++) {
                if (now.sumOfSet(now.built, set) != v) {
                    continue;
                }
                often++;
                if (fewest < 0 || Integer.bitCount(set) < fewest) {
                    fewest = Integer.bitCount(set);
                    best = set;
                }
            }
            if (often > 0) {
                told.tellTwo(best, often);
            }
            return fewest;
        }

        int evenParties() {
            int all = now.sumOf(now.pace);
            int best = 0;
            int least = all;
            for (int set = 0; set <= now.allBits(); set++) {
                int differ = Math.abs(all - 2 * now.sumOfSet(now.pace, set));
                if (differ < least) {
                    least = differ;
                    best = set;
                }
            }
            told.tellTwo(best, now.sumOfSet(now.pace, best));
            return least;
        }
    }

    /** What was heard of one, and who it may be. */
    private static final class Rumours {
        private static final int MOST = 12;
        private static final int KINDS = 5;
        private static final int BUILT_KIND = 1;
        private static final int[] MOST_OF = {9, 99, 2, 9, 1};
        private final Mountain now;
        private final Numbers told;
        /** 100 times what, and v. */
        private final int[] heard = new int[MOST];
        int size = 0;

        Rumours(Mountain now, Numbers told) {
            this.now = now;
            this.told = told;
        }

        int hear(int what, int v) {
            if (outside(what, 0, KINDS - 1) || outside(v, 0, mostOf(what)) || outside(size, 0, MOST - 1)) {
                return NONE;
            }
            heard[size] = 100 * what + v;
            size++;
            return size;
        }

        int drop() {
            int were = size;
            size = 0;
            return were;
        }

        int fitting() {
            int bits = fittingBits();
            told.tellOne(Integer.bitCount(bits));
            return bits;
        }

        int bestQuestion() {
            int fitting = fittingBits();
            if (fitting == 0) {
                return NOT_SO;
            }
            int all = Integer.bitCount(fitting);
            int best = NOT_SO;
            int fewest = all + 1;
            for (int what = 0; what < KINDS; what++) {
                for (int v = 0; what != BUILT_KIND && v <= mostOf(what); v++) {
                    int so = howManySo(fitting, what, v);
                    int left = Math.max(so, all - so);
                    if (left < fewest) {
                        fewest = left;
                        best = 10 * what + v;
                    }
                }
            }
            told.tellOne(fewest);
            return best;
        }

        private static int mostOf(int what) {
            return what >= 0 && what < MOST_OF.length ? MOST_OF[what] : NONE;
        }

        private int fittingBits() {
            int bits = now.allBits();
            for (int k = 0; k < size && k < MOST; k++) {
                for (int i = 0; i < MOST_CLIMBERS; i++) {
                    if (!isSo(i, heard[k] / 100, heard[k] % 100)) {
                        bits &= ~(1 << i);
                    }
                }
            }
            return bits;
        }

        private int howManySo(int bits, int what, int v) {
            int many = 0;
            for (int i = 0; i < MOST_CLIMBERS; i++) {
                if ((bits >> i & 1) == 1 && isSo(i, what, v)) {
                    many++;
                }
            }
            return many;
        }

        private boolean isSo(int who, int what, int v) {
            if (!now.has(who)) {
                return false;
            }
            switch (what) {
                case 0:
                    return now.pace[who] >= v;
                case BUILT_KIND:
                    return now.built[who] >= v;
                case 2:
                    return now.way[who] == v;
                case 3:
                    return now.height[who] >= v;
                case 4:
                    return now.wait[who] > 0 == (v == 1);
                default:
                    return false;
            }
        }
    }

    /** What was seen of going, and which laws fit it: a 0 .. 3, b 1 .. 5, c 0 .. 3. */
    private static final class Sights {
        private static final int MOST = 10;
        private static final int MOST_A = 3;
        private static final int MOST_B = 5;
        private static final int MOST_C = 3;
        private final Numbers told;
        /** 10 times PACE, and STEPS. */
        private final int[] seen = new int[MOST];
        int size = 0;
        /** By PACE and STEPS how many fitting laws go so. */
        private final int[] lawsBy = new int[(MOST_PACE + 1) * (MOST_STEPS + 1)];
        private int fitting = 0;
        private int leastA = 0;
        private int leastB = 0;
        private int leastC = 0;

        Sights(Numbers told) {
            this.told = told;
        }

        int see(int p, int s) {
            if (outside(p, 0, MOST_PACE) || outside(s, 0, MOST_STEPS) || outside(size, 0, MOST - 1)) {
                return NONE;
            }
            seen[size] = 10 * p + s;
            size++;
            return size;
        }

        int drop() {
            int were = size;
            size = 0;
            return were;
        }

        int fittingLaws() {
            findLaws();
            told.clear();
            if (fitting > 0) {
                told.tellTwo(leastA, leastB);
                told.add(leastC);
            }
            return fitting;
        }

        int bestPace() {
            findLaws();
            if (fitting == 0) {
                return NOT_SO;
            }
            int best = NOT_SO;
            int fewest = fitting + 1;
            for (int p = 0; p <= MOST_PACE; p++) {
                int left = mostLeft(p);
                if (left < fewest) {
                    fewest = left;
                    best = p;
                }
            }
            told.tellOne(fewest);
            return best;
        }

        private int mostLeft(int p) {
            int most = 0;
            for (int s = 0; s <= MOST_STEPS; s++) {
                int place = p * (MOST_STEPS + 1) + s;
                if (place >= 0 && place < lawsBy.length) {
                    most = Math.max(most, lawsBy[place]);
                }
            }
            return most;
        }

        private void findLaws() {
            fitting = 0;
            for (int i = 0; i < lawsBy.length; i++) {
                lawsBy[i] = 0;
            }
            for (int a = 0; a <= MOST_A; a++) {
                for (int b = 1; b <= MOST_B; b++) {
                    for (int c = 0; c <= MOST_C; c++) {
                        if (lawFits(a, b, c)) {
                            addLaw(a, b, c);
                        }
                    }
                }
            }
        }

        private void addLaw(int a, int b, int c) {
            if (fitting == 0) {
                leastA = a;
                leastB = b;
                leastC = c;
            }
            fitting++;
            for (int p = 0; p <= MOST_PACE; p++) {
                int place = p * (MOST_STEPS + 1) + stepsBy(a, b, c, p);
                if (place >= 0 && place < lawsBy.length) {
                    lawsBy[place]++;
                }
            }
        }

        private boolean lawFits(int a, int b, int c) {
            for (int k = 0; k < size && k < MOST; k++) {
                if (stepsBy(a, b, c, seen[k] / 10) != seen[k] % 10) {
                    return false;
                }
            }
            return true;
        }

        private static int stepsBy(int a, int b, int c, int p) {
            return b < 1 ? 0 : Math.min(c, a + p / b);
        }
    }

    /** What is worked out from told numbers alone: a walk by chance, a polite bend, a chapel. */
    private static final class Games {
        static final int FARTHEST = 20;
        private static final int MOST_BUILT = 9;
        private static final int CHEAP_STEPS = 4;
        private final Numbers told;
        /** By what the one in turn has left: with how many of the other's he wins (bits). */
        private final int[] winsPlain = new int[FARTHEST + 1];
        /** Likewise, if the other one went 2 just now. */
        private final int[] winsBehindTwo = new int[FARTHEST + 1];

        Games(Numbers told) {
            this.told = told;
        }

        /**
         * The chance to come from h to 0 ahead of TOP is the sum of down^i * up^(TOP-1-i) for i from h on,
         * by that sum from 0 on; this stays right with down or up 0.
         */
        int chanceOfStile(int h, int down, int top) {
            int up = 10 - down;
            long upper = 0;
            long lower = 0;
            for (int i = 0; i < top; i++) {
                long part = power(down, i) * power(up, top - 1 - i);
                lower += part;
                upper += i >= h ? part : 0;
            }
            long by = divisorOfBoth(upper, lower);
            if (by > 0) {
                told.tellTwo(upper / by, lower / by);
            }
            return 0;
        }

        private static long power(int base, int times) {
            long value = 1;
            for (int i = 0; i < times; i++) {
                value *= base;
            }
            return value;
        }

        private static long divisorOfBoth(long a, long b) {
            long x = a;
            long y = b;
            // Each two rounds halve it at least, so 200 are plenty for a long.
            for (int i = 0; i < 200 && y != 0; i++) {
                long rest = x % y;
                x = y;
                y = rest;
            }
            return x;
        }

        int bestAtBend(int a, int b) {
            playBend(Math.max(a, b));
            told.clear();
            for (int go = 1; go <= 2; go++) {
                if (winsByGoing(a, b, go)) {
                    told.add(go);
                    return 1;
                }
            }
            return 0;
        }

        /** What comes behind a move has fewer left together, or as many and nobody went 2. */
        private void playBend(int most) {
            for (int i = 0; i <= FARTHEST; i++) {
                winsPlain[i] = 0;
                winsBehindTwo[i] = 0;
            }
            for (int both = 2; both <= 2 * most; both++) {
                int from = Math.max(1, both - most);
                int to = Math.min(most, both - 1);
                for (int x = from; x <= to && x <= FARTHEST; x++) {
                    int y = both - x;
                    boolean wins = winsByGoing(x, y, 1) || winsByGoing(x, y, 2);
                    winsPlain[x] |= wins ? 1 << y : 0;
                }
                for (int x = from; x <= to && x <= FARTHEST; x++) {
                    int y = both - x;
                    boolean wins = isWin(winsPlain, x, y) || !isWin(winsPlain, y, x);
                    winsBehindTwo[x] |= wins ? 1 << y : 0;
                }
            }
        }

        private boolean winsByGoing(int x, int y, int go) {
            return x - go > 0 && !isWin(go == 2 ? winsBehindTwo : winsPlain, y, x - go);
        }

        private static boolean isWin(int[] wins, int x, int y) {
            return x >= 0 && x < wins.length && (wins[x] >> y & 1) == 1;
        }

        int restingPairs(int v) {
            int many = 0;
            told.clear();
            for (int x = 0; x <= MOST_BUILT; x++) {
                for (int y = 0; y <= MOST_BUILT; y++) {
                    if (!bestAgainst(x, y, v) || !bestAgainst(y, x, v)) {
                        continue;
                    }
                    if (many == 0) {
                        told.tellTwo(x, y);
                    }
                    many++;
                }
            }
            return many;
        }

        private static boolean bestAgainst(int own, int others, int v) {
            int has = worth(own, others, v);
            for (int x = 0; x <= MOST_BUILT; x++) {
                if (worth(x, others, v) > has) {
                    return false;
                }
            }
            return true;
        }

        private static int worth(int own, int others, int v) {
            int costs = own + Math.max(0, own - CHEAP_STEPS);
            return (own + others) / 2 + (own > others ? v : 0) - costs;
        }
    }
}
