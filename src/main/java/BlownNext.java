import java.util.Arrays;

/** A street of smiths, each of whom blows another one's fire; the document says what each call promises. */
public final class BlownNext {
    public static final int NONE = -1;

    private static final int NO_SUCH = -2;
    private static final int BAD_NUMBER = -3;
    private static final int TOO_MANY = -4;
    private static final int NOT_NOW = -5;
    private static final int ROW_MISSING = -6;
    private static final int NO_PLACE = -7;
    private static final int BAD_TEXT = -30;

    private static final int MOST_BYTES = 900;
    private static final int FED_BYTES = 20;
    private static final int MOST_SMITHS = 10;
    private static final int LAST_MINUTE = 9999;
    private static final int MOST_HEAT = 200;
    private static final int MOST_BLAST = 60;
    private static final int MOST_COOL = 30;
    private static final int MOST_STROKES = 20;
    private static final int MOST_CUSTOM = 200;
    private static final int MOST_DAY = 60;
    private static final int MOST_WHEN = 300;
    private static final int MOST_LENGTH = 12;
    private static final int MOST_ROUND = 10;
    private static final int MOST_LAID = 7;
    private static final int MOST_SOUGHT = 3;
    private static final int ROWS = 4;
    private static final int MOST_NUMBERS = 40;
    private static final int IMAGES = 2;
    /** Answers about SMITH i are asked for by this and i. */
    private static final int OF_SMITH = 10;
    private static final int NOBODY = 0;

    private final Street now = new Street();
    /** What is only "as if" happens here, so that no call makes a street of its own. */
    private final Street spare = new Street();
    private final Street[] images = new Street[IMAGES];
    private final boolean[] imageMade = new boolean[IMAGES];
    private final NumberRow[] rows = new NumberRow[ROWS];
    private final Reader tape = new Reader();
    private final ToldMinutes told = new ToldMinutes();
    private final Rhythms rhythms = new Rhythms();
    private final Layout layout = new Layout();
    /** Made when it is first needed: it is by far the largest part. */
    private Search search;

    public BlownNext() {
        for (int i = 0; i < IMAGES; i++) {
            images[i] = new Street();
        }
        for (int i = 0; i < ROWS; i++) {
            rows[i] = new NumberRow();
        }
    }

    // ---- the street

    public int feed(int a, int b, int c, int d, int e) {
        if (tape.fed + FED_BYTES > MOST_BYTES) {
            return NOT_NOW;
        }
        tape.putBytes(a);
        tape.putBytes(b);
        tape.putBytes(c);
        tape.putBytes(d);
        tape.putBytes(e);
        return tape.fed;
    }

    public int street(int n) {
        if (!isWithin(n, 0, tape.fed)) {
            return BAD_NUMBER;
        }
        tape.readStreet(n, spare);
        if (tape.fault != 0) {
            return BAD_TEXT - tape.fault;
        }
        now.takeFrom(spare);
        return now.lines;
    }

    public int fault(int what) {
        switch (what) {
            case 0:
                return tape.fault;
            case 1:
                return tape.place;
            default:
                return NONE;
        }
    }

    public int smith(int i, int what) {
        if (!now.isSmith(i)) {
            return NO_SUCH;
        }
        switch (what) {
            case 0:
                return now.blast[i];
            case 1:
                return now.cool[i];
            case 2:
                return now.heat[i];
            case 3:
                return now.low[i];
            case 4:
                return now.high[i];
            case 5:
                return now.need[i];
            case 6:
                return now.strokes[i];
            case 7:
                return now.burnt[i];
            case 8:
                return now.to[i];
            case 9:
                return now.isDone(i) ? 1 : 0;
            default:
                return NO_SUCH;
        }
    }

    public int blowers(int i) {
        return now.isSmith(i) ? now.blowersOf(i) : NO_SUCH;
    }

    public int rope(int i, int to) {
        if (!now.isSmith(i) || !now.isSmith(to)) {
            return NO_SUCH;
        }
        int old = now.to[i];
        now.to[i] = to;
        return old;
    }

    public int arm(int i, int blast) {
        if (!now.isSmith(i)) {
            return NO_SUCH;
        }
        if (!isWithin(blast, 0, MOST_BLAST)) {
            return BAD_NUMBER;
        }
        int old = now.blast[i];
        now.blast[i] = blast;
        return old;
    }

    public int piece(int i, int strokes) {
        if (!now.isSmith(i)) {
            return NO_SUCH;
        }
        if (!isWithin(strokes, 0, MOST_STROKES)) {
            return BAD_NUMBER;
        }
        int old = now.strokes[i];
        now.beginPiece(i, strokes);
        return old;
    }

    // ---- minutes

    public int minute(int pull, int strike) {
        if (!now.isSet(pull) || !now.isSet(strike) || (pull & strike) != 0) {
            return BAD_NUMBER;
        }
        if (now.minute >= LAST_MINUTE) {
            return NOT_NOW;
        }
        return now.pass(pull, strike, NONE, 0);
    }

    public int judge(int row, int what) {
        if (!isRow(row) || !isWithin(what, 0, 4)) {
            return NO_SUCH;
        }
        if (!rows[row].there) {
            return ROW_MISSING;
        }
        spare.takeFrom(now);
        told.passOn(spare, rows[row]);
        switch (what) {
            case 0:
                return told.why == 0 ? NONE : told.passed;
            case 1:
                return told.why;
            case 2:
                return told.counted;
            case 3:
                return spare.piecesDone();
            default:
                return spare.burnings - now.burnings;
        }
    }

    public int perform(int row) {
        int refused = refusedRow(row);
        if (refused != 0) {
            return refused;
        }
        told.passOn(now, rows[row]);
        return told.passed;
    }

    public int custom(int n) {
        int refused = refusedMinutes(n, MOST_CUSTOM);
        return refused != 0 ? refused : doneByCustom(n, NOBODY, NONE, 0);
    }

    public int live(int n) {
        int refused = refusedMinutes(n, MOST_CUSTOM);
        return refused != 0 ? refused : now.passAllByCustom(n, NOBODY, NONE, 0);
    }

    public int day(int seed, int minutes) {
        int refused = refusedMinutes(minutes, MOST_DAY);
        if (refused != 0) {
            return refused;
        }
        int x = seed;
        int counted = 0;
        for (int m = 0; m < minutes; m++) {
            int pull = 0;
            int strike = 0;
            for (int i = 0; i < now.size; i++) {
                x = 1103515245 * x + 12345;
                int drawn = (x >>> 16) % 3;
                pull |= drawn == 1 ? 1 << i : 0;
                strike |= drawn == 2 ? 1 << i : 0;
            }
            counted += now.pass(pull, strike, NONE, 0);
        }
        return counted;
    }

    private int refusedMinutes(int n, int most) {
        if (!isWithin(n, 1, most)) {
            return BAD_NUMBER;
        }
        return now.minute + n > LAST_MINUTE ? NOT_NOW : 0;
    }

    private int doneByCustom(int n, int idle, int strangersFire, int strangersBlast) {
        spare.takeFrom(now);
        spare.passAllByCustom(n, idle, strangersFire, strangersBlast);
        return spare.piecesDone();
    }

    // ---- rings

    public int ring(int i) {
        return now.isSmith(i) ? now.ringLength(now.inRing(i)) : NO_SUCH;
    }

    public int rings() {
        int found = 0;
        for (int i = 0; i < now.size; i++) {
            if (now.isLeastOfRing(i)) {
                found++;
            }
        }
        return found;
    }

    public int steps(int i, int to) {
        if (!now.isSmith(i) || !now.isSmith(to)) {
            return NO_SUCH;
        }
        int at = i;
        for (int ropes = 0; ropes < now.size; ropes++) {
            if (at == to) {
                return ropes;
            }
            at = now.to[at];
        }
        return NONE;
    }

    public int unblown() {
        int found = 0;
        for (int i = 0; i < now.size; i++) {
            if (now.blowersOf(i) == 0) {
                found |= 1 << i;
            }
        }
        return found;
    }

    // ---- rhythms

    public int holds(int row, int length, int what) {
        if (!isRow(row) || !isWithin(what, 0, 1)) {
            return NO_SUCH;
        }
        int refused = refusedRhythms(row, length);
        if (refused != 0) {
            return refused;
        }
        rhythms.takeRow(rows[row], length);
        rhythms.judgeOn(now);
        return what == 0 ? rhythms.brokenBehind : rhythms.brokenBy;
    }

    public int even(int row, int length) {
        int refused = refusedRhythms(row, length);
        if (refused != 0) {
            return refused;
        }
        rhythms.takeRow(rows[row], length);
        return rhythms.evenOnes(now);
    }

    public int wave(int length, int step) {
        if (!isWithin(length, 1, MOST_LENGTH) || !isWithin(step, 0, length - 1)) {
            return BAD_NUMBER;
        }
        return waveBreaksBehind(length, step);
    }

    public int bestWave(int length) {
        if (!isWithin(length, 1, MOST_LENGTH)) {
            return BAD_NUMBER;
        }
        int best = 0;
        int longest = 0;
        for (int step = 0; step < length; step++) {
            int behind = waveBreaksBehind(length, step);
            if (behind == NONE) {
                return step;
            }
            if (behind > longest) {
                longest = behind;
                best = step;
            }
        }
        return best;
    }

    private int waveBreaksBehind(int length, int step) {
        rhythms.takeWave(length, step);
        rhythms.judgeOn(now);
        return rhythms.brokenBehind;
    }

    public int bestRound(int length, int what) {
        if (what != 0 && !now.isSmith(what - OF_SMITH)) {
            return NO_SUCH;
        }
        if (!isWithin(length, 1, MOST_ROUND)) {
            return BAD_NUMBER;
        }
        if (now.size * length > MOST_ROUND) {
            return TOO_MANY;
        }
        int pulls = rhythms.seekBestRound(now, length);
        return what == 0 || pulls == NONE ? pulls : rhythms.best[what - OF_SMITH];
    }

    public int peace(int what) {
        if (!isWithin(what, 0, 1)) {
            return NO_SUCH;
        }
        int best = 0;
        int most = now.payTogether(0);
        for (int set = 1; set <= now.everyone(); set++) {
            int pay = now.payTogether(set);
            if (pay > most) {
                most = pay;
                best = set;
            }
        }
        return what == 0 ? most : best;
    }

    public int selfish(int k) {
        if (k < NONE) {
            return NONE;
        }
        int found = 0;
        for (int set = 0; set <= now.everyone(); set++) {
            if (now.isSelfish(set)) {
                if (found == k) {
                    return set;
                }
                found++;
            }
        }
        return k == NONE ? found : NONE;
    }

    // ---- sought

    public int soonest() {
        if (now.size > MOST_SOUGHT) {
            return TOO_MANY;
        }
        if (now.piecesDone() == now.size) {
            return 0;
        }
        if (search == null) {
            search = new Search();
        }
        return search.minutesToEnd(now);
    }

    public int seen(int row) {
        int refused = refusedSeen(row);
        if (refused != 0) {
            return refused;
        }
        int found = 0;
        for (int set = 0; set <= now.everyone(); set++) {
            if (now.comesAs(rows[row], set)) {
                found++;
            }
        }
        return found;
    }

    public int sure(int row, boolean pulls) {
        int refused = refusedSeen(row);
        if (refused != 0) {
            return refused;
        }
        int common = now.everyone();
        boolean any = false;
        for (int set = 0; set <= now.everyone(); set++) {
            if (now.comesAs(rows[row], set)) {
                any = true;
                common &= pulls ? set : ~set;
            }
        }
        return any ? common : 0;
    }

    public int ropes(int what) {
        if (what != 0 && !now.isSmith(what - OF_SMITH)) {
            return NO_SUCH;
        }
        if (now.size > MOST_LAID) {
            return TOO_MANY;
        }
        if (now.size == 0) {
            return NOT_NOW;
        }
        layout.seekBest(now);
        return what == 0 ? layout.bestSum : layout.best[what - OF_SMITH];
    }

    public int lazy(int i, int n) {
        if (!now.isSmith(i)) {
            return NO_SUCH;
        }
        int refused = refusedMinutes(n, MOST_CUSTOM);
        if (refused != 0) {
            return refused;
        }
        return doneByCustom(n, NOBODY, NONE, 0) - doneByCustom(n, 1 << i, NONE, 0);
    }

    public int stranger(int i, int blast, int n) {
        if (!now.isSmith(i)) {
            return NO_SUCH;
        }
        int refused = refusedStranger(blast, n);
        if (refused != 0) {
            return refused;
        }
        return doneByCustom(n, NOBODY, now.to[i], blast) - doneByCustom(n, NOBODY, NONE, 0);
    }

    public int bestPlace(int blast, int n) {
        // this call tells NONE ahead of its refusals
        if (now.size == 0) {
            return NONE;
        }
        int refused = refusedStranger(blast, n);
        if (refused != 0) {
            return refused;
        }
        int best = 0;
        int most = NONE;
        for (int i = 0; i < now.size; i++) {
            int done = doneByCustom(n, NOBODY, now.to[i], blast);
            if (done > most) {
                most = done;
                best = i;
            }
        }
        return best;
    }

    private int refusedStranger(int blast, int n) {
        return isWithin(blast, 0, MOST_BLAST) ? refusedMinutes(n, MOST_CUSTOM) : BAD_NUMBER;
    }

    public int swapped(int n, int what) {
        if (!isWithin(what, 0, 1)) {
            return NO_SUCH;
        }
        int refused = refusedMinutes(n, MOST_CUSTOM);
        if (refused != 0) {
            return refused;
        }
        int without = doneByCustom(n, NOBODY, NONE, 0);
        int most = without;
        int pair = NONE;
        for (int i = 0; i < now.size; i++) {
            for (int j = i + 1; j < now.size; j++) {
                int done = doneBySwapped(n, i, j);
                if (done > most) {
                    most = done;
                    pair = 10 * i + j;
                }
            }
        }
        return what == 0 ? most - without : pair;
    }

    private int doneBySwapped(int n, int i, int j) {
        spare.takeFrom(now);
        spare.blast[i] = now.blast[j];
        spare.blast[j] = now.blast[i];
        spare.passAllByCustom(n, NOBODY, NONE, 0);
        return spare.piecesDone();
    }

    public int when(int i) {
        if (!now.isSmith(i)) {
            return NO_SUCH;
        }
        spare.takeFrom(now);
        for (int minutes = 0; minutes <= MOST_WHEN; minutes++) {
            if (spare.isDone(i)) {
                return minutes;
            }
            spare.passByCustom(NOBODY, NONE, 0);
        }
        return NONE;
    }

    public int warm(int i, int heat) {
        if (!now.isSmith(i)) {
            return NO_SUCH;
        }
        if (!isWithin(heat, 0, MOST_HEAT)) {
            return BAD_NUMBER;
        }
        int lacking = heat - now.heat[i];
        if (lacking <= 0) {
            return 0;
        }
        int gain = now.blastOn(i, now.everyone()) - now.cool[i];
        return gain <= 0 ? NONE : (lacking + gain - 1) / gain;
    }

    public int cold(int i) {
        if (!now.isSmith(i)) {
            return NO_SUCH;
        }
        int above = now.heat[i] - now.low[i];
        if (above < 0) {
            return 0;
        }
        // no fire comes below 0, so none comes below a LOW of 0
        if (now.cool[i] <= 0 || now.low[i] == 0) {
            return NONE;
        }
        return above / now.cool[i] + 1;
    }

    // ---- rows of numbers, images

    public int numbers(int row, int sort, int n) {
        if (!isRow(row) || !isWithin(sort, 0, 3)) {
            return NO_SUCH;
        }
        if (!isWithin(n, 0, MOST_NUMBERS)) {
            return BAD_NUMBER;
        }
        rows[row].begin(sort, n);
        return 0;
    }

    public long write(int row, int i, long v) {
        int refused = refusedRow(row);
        if (refused != 0) {
            return refused;
        }
        if (!isWithin(i, 0, rows[row].size - 1)) {
            return NO_PLACE;
        }
        rows[row].put(i, v);
        return rows[row].numbers[i];
    }

    public int copy(int row) {
        int refused = refusedRow(row);
        if (refused != 0) {
            return refused;
        }
        if (rows[row].size < now.size) {
            return NO_PLACE;
        }
        for (int i = 0; i < now.size; i++) {
            rows[row].put(i, now.heat[i]);
        }
        return now.size;
    }

    public int image(int i) {
        if (!isImage(i)) {
            return NO_SUCH;
        }
        images[i].takeFrom(now);
        imageMade[i] = true;
        return 0;
    }

    public int restore(int i) {
        if (!isImage(i)) {
            return NO_SUCH;
        }
        if (!imageMade[i]) {
            return NOT_NOW;
        }
        now.takeFrom(images[i]);
        return 0;
    }

    public int count(int what) {
        switch (what) {
            case 0:
                return now.size;
            case 1:
                return now.minute;
            case 2:
                return now.piecesDone();
            case 3:
                return now.burnings;
            case 4:
                return now.workable();
            case 5:
                return now.heatTogether();
            case 6:
                return tape.fed;
            case 7:
                return now.lines;
            case 8:
                return now.loss;
            default:
                return NONE;
        }
    }

    // ---- what calls are refused by

    private static boolean isWithin(int v, int least, int most) {
        return v >= least && v <= most;
    }

    private static boolean isRow(int row) {
        return row >= 0 && row < ROWS;
    }

    private static boolean isImage(int i) {
        return i >= 0 && i < IMAGES;
    }

    private int refusedRow(int row) {
        if (!isRow(row)) {
            return NO_SUCH;
        }
        return rows[row].there ? 0 : ROW_MISSING;
    }

    private int refusedSeen(int row) {
        int refused = refusedRow(row);
        if (refused != 0) {
            return refused;
        }
        return rows[row].size == now.size ? 0 : NO_PLACE;
    }

    private int refusedRhythms(int row, int length) {
        int refused = refusedSeen(row);
        if (refused != 0) {
            return refused;
        }
        return isWithin(length, 1, MOST_LENGTH) ? 0 : BAD_NUMBER;
    }

    private static boolean isIn(int set, int i) {
        return (set >> i & 1) != 0;
    }

    private static int bounded(int heat) {
        return Math.max(0, Math.min(MOST_HEAT, heat));
    }

    /** THE STREET as it stands: its SMITHS, the MINUTE, and what a MINUTE does to them. */
    private static final class Street {
        int size;
        int minute;
        int lines;
        int loss = MOST_STROKES;
        /** How often a PIECE was BURNT, those PIECES too in whose place others were begun. */
        int burnings;
        final int[] blast = new int[MOST_SMITHS];
        final int[] cool = new int[MOST_SMITHS];
        final int[] heat = new int[MOST_SMITHS];
        final int[] low = new int[MOST_SMITHS];
        final int[] high = new int[MOST_SMITHS];
        final int[] need = new int[MOST_SMITHS];
        final int[] strokes = new int[MOST_SMITHS];
        final int[] burnt = new int[MOST_SMITHS];
        final int[] to = new int[MOST_SMITHS];
        /** By how much each HEAT would change: made anew by each call that needs it. */
        private final int[] change = new int[MOST_SMITHS];

        void takeFrom(Street other) {
            size = other.size;
            minute = other.minute;
            lines = other.lines;
            loss = other.loss;
            burnings = other.burnings;
            for (int i = 0; i < size; i++) {
                blast[i] = other.blast[i];
                cool[i] = other.cool[i];
                heat[i] = other.heat[i];
                low[i] = other.low[i];
                high[i] = other.high[i];
                need[i] = other.need[i];
                strokes[i] = other.strokes[i];
                burnt[i] = other.burnt[i];
                to[i] = other.to[i];
            }
        }

        void clear() {
            size = 0;
            minute = 0;
            lines = 0;
            loss = MOST_STROKES;
            burnings = 0;
        }

        /** Who was not told to blow a fire (NONE) blows the next one's. */
        void layUntoldRopes() {
            for (int i = 0; i < size; i++) {
                if (to[i] == NONE) {
                    to[i] = i + 1 < size ? i + 1 : 0;
                }
            }
        }

        boolean isSmith(int i) {
            return i >= 0 && i < size;
        }

        int everyone() {
            return (1 << size) - 1;
        }

        boolean isSet(int set) {
            return (set & ~everyone()) == 0;
        }

        void beginPiece(int i, int strokesNeeded) {
            need[i] = strokesNeeded;
            strokes[i] = 0;
            burnt[i] = 0;
        }

        boolean isDone(int i) {
            return strokes[i] >= need[i];
        }

        boolean isWorkableAt(int i, int someHeat) {
            return someHeat >= low[i] && someHeat <= high[i];
        }

        boolean canStrike(int i) {
            return !isDone(i) && isWorkableAt(i, heat[i]);
        }

        int blowersOf(int fire) {
            int found = 0;
            for (int i = 0; i < size; i++) {
                found |= to[i] == fire ? 1 << i : 0;
            }
            return found;
        }

        /** What comes to a fire, if a set of SMITHS pulls. */
        int blastOn(int fire, int pull) {
            int sum = 0;
            for (int i = 0; i < size; i++) {
                if (to[i] == fire && isIn(pull, i)) {
                    sum += blast[i];
                }
            }
            return sum;
        }

        int heatBehind(int fire, int pull) {
            return bounded(heat[fire] + blastOn(fire, pull) - cool[fire]);
        }

        private void weighChanges(int pull) {
            for (int i = 0; i < size; i++) {
                change[i] = -cool[i];
            }
            for (int i = 0; i < size; i++) {
                if (isIn(pull, i)) {
                    change[to[i]] += blast[i];
                }
            }
        }

        /** A MINUTE: how many strokes counted. A stranger's fire is NONE, if there is no stranger. */
        int pass(int pull, int strike, int strangersFire, int strangersBlast) {
            int counted = 0;
            for (int i = 0; i < size; i++) {
                if (isIn(strike, i) && canStrike(i)) {
                    strokes[i]++;
                    counted++;
                }
            }
            weighChanges(pull);
            if (isSmith(strangersFire)) {
                change[strangersFire] += strangersBlast;
            }
            for (int i = 0; i < size; i++) {
                heat[i] = bounded(heat[i] + change[i]);
                burn(i);
            }
            minute++;
            return counted;
        }

        private void burn(int i) {
            if (!isDone(i) && strokes[i] > 0 && heat[i] > high[i]) {
                strokes[i] = Math.max(0, strokes[i] - loss);
                burnt[i]++;
                burnings++;
            }
        }

        private boolean bears(int fire, int someBlast) {
            return heat[fire] + someBlast <= high[fire];
        }

        /** A MINUTE by CUSTOM, but that the idle ones do nothing, and with a stranger, if he has a fire. */
        int passByCustom(int idle, int strangersFire, int strangersBlast) {
            int strike = 0;
            int pull = 0;
            for (int i = 0; i < size; i++) {
                if (isIn(idle, i)) {
                    continue;
                }
                if (canStrike(i)) {
                    strike |= 1 << i;
                } else if (bears(to[i], blast[i])) {
                    pull |= 1 << i;
                }
            }
            boolean strangerPulls = isSmith(strangersFire) && bears(strangersFire, strangersBlast);
            return pass(pull, strike, strangerPulls ? strangersFire : NONE, strangersBlast);
        }

        int passAllByCustom(int minutes, int idle, int strangersFire, int strangersBlast) {
            int counted = 0;
            for (int m = 0; m < minutes; m++) {
                counted += passByCustom(idle, strangersFire, strangersBlast);
            }
            return counted;
        }

        int piecesDone() {
            int done = 0;
            for (int i = 0; i < size; i++) {
                done += isDone(i) ? 1 : 0;
            }
            return done;
        }

        int heatTogether() {
            int sum = 0;
            for (int i = 0; i < size; i++) {
                sum += heat[i];
            }
            return sum;
        }

        int workable() {
            int found = 0;
            for (int i = 0; i < size; i++) {
                found |= isWorkableAt(i, heat[i]) ? 1 << i : 0;
            }
            return found;
        }

        /** A SMITH of the RING to which the way from a SMITH leads. */
        int inRing(int i) {
            int at = i;
            for (int k = 0; k < size; k++) {
                at = to[at];
            }
            return at;
        }

        int ringLength(int inIt) {
            int at = to[inIt];
            int length = 1;
            while (at != inIt && length < size) {
                at = to[at];
                length++;
            }
            return length;
        }

        boolean isLeastOfRing(int i) {
            int at = to[i];
            for (int k = 0; k < size && at > i; k++) {
                at = to[at];
            }
            return at == i;
        }

        private int payOf(int i, int set) {
            int pay = isWorkableAt(i, heatBehind(i, set)) ? 2 : 0;
            return isIn(set, i) ? pay - 1 : pay;
        }

        int payTogether(int set) {
            weighChanges(set);
            int sum = -Integer.bitCount(set);
            for (int i = 0; i < size; i++) {
                sum += isWorkableAt(i, bounded(heat[i] + change[i])) ? 2 : 0;
            }
            return sum;
        }

        boolean isSelfish(int set) {
            for (int i = 0; i < size; i++) {
                if (payOf(i, set ^ 1 << i) > payOf(i, set)) {
                    return false;
                }
            }
            return true;
        }

        /** Whether HEATS are as in a row behind the next MINUTE, if a set of SMITHS pulls. */
        boolean comesAs(NumberRow row, int set) {
            for (int i = 0; i < size; i++) {
                if (heatBehind(i, set) != row.numbers[i]) {
                    return false;
                }
            }
            return true;
        }
    }

    /** THE TAPE, from which THE STREET is read TOKEN by TOKEN, and the FAULT of the latest reading. */
    private static final class Reader {
        private static final int WORD = 1;
        private static final int NUMBER = 2;
        private static final int SIGN = 3;
        private static final int BLANK = 4;
        private static final int END = 5;
        private static final int NO_TOKEN = 6;

        private static final int FAULT_NO_TOKEN = 1;
        private static final int FAULT_MISPLACED = 2;
        private static final int FAULT_BOUNDS = 3;
        private static final int FAULT_TOO_MANY = 4;

        private static final int MOST_DIGITS = 3;

        int fed;
        int fault;
        int place = NONE;
        private final byte[] text = new byte[MOST_BYTES];
        private int end;
        /** The TOKEN to be judged next: its kind, where it begins, where it has ended. */
        private int kind;
        private int from;
        private int behind;

        void putBytes(int four) {
            for (int shift = 24; shift >= 0 && fed < MOST_BYTES; shift -= 8) {
                text[fed] = (byte) (four >> shift);
                fed++;
            }
        }

        /** Where a FAULT is told, what has come into the street is of no use. */
        void readStreet(int n, Street street) {
            end = Math.min(n, fed);
            fed = 0;
            behind = 0;
            fault = 0;
            place = NONE;
            street.clear();
            Arrays.fill(street.to, NONE);
            nextToken();
            for (int k = 0; k <= end && fault == 0 && kind != END; k++) {
                if (isWord("smith")) {
                    readSmith(street);
                } else if (isWord("blows")) {
                    readBlows(street);
                } else if (isWord("burnt")) {
                    nextToken();
                    street.loss = takeNumber(0, MOST_STROKES);
                } else {
                    fail(FAULT_MISPLACED);
                }
                endLine(street);
            }
            street.layUntoldRopes();
        }

        private void endLine(Street street) {
            if (kind != SIGN) {
                fail(FAULT_MISPLACED);
            }
            if (fault == 0) {
                street.lines++;
                nextToken();
            }
        }

        private void readSmith(Street street) {
            int i = street.size;
            if (i >= MOST_SMITHS) {
                fail(FAULT_TOO_MANY);
                return;
            }
            nextToken();
            street.blast[i] = takeNumber(0, MOST_BLAST);
            street.cool[i] = takeOption("cool", 0, MOST_COOL, 5);
            street.heat[i] = takeOption("heat", 0, MOST_HEAT, 0);
            street.low[i] = takeOption("low", 0, MOST_HEAT, 20);
            street.high[i] = takeOption("high", street.low[i], MOST_HEAT, Math.max(100, street.low[i]));
            street.beginPiece(i, takeOption("piece", 0, MOST_STROKES, 3));
            street.size++;
        }

        private void readBlows(Street street) {
            nextToken();
            int who = takeNumber(0, street.size - 1);
            int whom = takeNumber(0, street.size - 1);
            if (fault == 0) {
                street.to[who] = whom;
            }
        }

        private int takeOption(String name, int least, int most, int without) {
            if (fault != 0 || !isWord(name)) {
                return without;
            }
            nextToken();
            return takeNumber(least, most);
        }

        /** An N is judged before the TOKEN behind it is looked at, whose FAULT would be a later one. */
        private int takeNumber(int least, int most) {
            int worth = 0;
            for (int at = from; kind == NUMBER && at < behind; at++) {
                worth = 10 * worth + text[at] - '0';
            }
            if (kind != NUMBER) {
                fail(FAULT_MISPLACED);
            } else if (!isWithin(worth, least, most)) {
                fail(FAULT_BOUNDS);
            }
            if (fault != 0) {
                return 0;
            }
            nextToken();
            return worth;
        }

        /** The first FAULT is the one that counts. */
        private void fail(int which) {
            if (fault == 0) {
                fault = which;
                place = from;
            }
        }

        private boolean isWord(String name) {
            if (kind != WORD || behind - from != name.length()) {
                return false;
            }
            for (int k = 0; k < name.length(); k++) {
                if (text[from + k] != name.charAt(k)) {
                    return false;
                }
            }
            return true;
        }

        private void nextToken() {
            from = behind;
            while (from < end && kindAt(from) == BLANK) {
                from++;
            }
            kind = kindAt(from);
            behind = Math.min(from + 1, end);
            while (behind < end && (kind == WORD || kind == NUMBER) && kindAt(behind) == kind) {
                behind++;
            }
            if (kind == NO_TOKEN || kind == NUMBER && behind - from > MOST_DIGITS) {
                kind = NO_TOKEN;
                fail(FAULT_NO_TOKEN);
            }
        }

        private int kindAt(int at) {
            if (at >= end) {
                return END;
            }
            byte sign = text[at];
            if (sign >= 'a' && sign <= 'z') {
                return WORD;
            }
            if (sign >= '0' && sign <= '9') {
                return NUMBER;
            }
            if (sign == 10 || sign == 32) {
                return BLANK;
            }
            return sign == ';' ? SIGN : NO_TOKEN;
        }
    }

    /** A ROW OF NUMBERS: each number is kept as long, but never wider than its sort. */
    private static final class NumberRow {
        boolean there;
        int size;
        final long[] numbers = new long[MOST_NUMBERS];
        private int sort;

        void begin(int ofSort, int n) {
            there = true;
            sort = ofSort;
            size = n;
            Arrays.fill(numbers, 0L);
        }

        void put(int i, long v) {
            numbers[i] = cut(v);
        }

        private long cut(long v) {
            switch (sort) {
                case 0:
                    return (byte) v;
                case 1:
                    return (short) v;
                case 2:
                    return (int) v;
                default:
                    return v;
            }
        }
    }

    /** MINUTES told in a ROW, passed as far as they can be. */
    private static final class ToldMinutes {
        private static final int FOREIGN = 1;
        private static final int IN_BOTH = 2;
        private static final int NO_SECOND = 3;
        private static final int TOO_LATE = 4;

        int passed;
        int why;
        int counted;

        void passOn(Street street, NumberRow row) {
            passed = 0;
            why = 0;
            counted = 0;
            for (int at = 0; at < row.size; at += 2) {
                why = whyNot(street, row, at);
                if (why != 0) {
                    return;
                }
                counted += street.pass((int) row.numbers[at], (int) row.numbers[at + 1], NONE, 0);
                passed++;
            }
        }

        private static int whyNot(Street street, NumberRow row, int at) {
            long pull = row.numbers[at];
            if (isForeign(street, pull)) {
                return FOREIGN;
            }
            if (at + 1 >= row.size) {
                return NO_SECOND;
            }
            long strike = row.numbers[at + 1];
            if (isForeign(street, strike)) {
                return FOREIGN;
            }
            if ((pull & strike) != 0) {
                return IN_BOTH;
            }
            return street.minute >= LAST_MINUTE ? TOO_LATE : 0;
        }

        private static boolean isForeign(Street street, long set) {
            return set < 0 || set > street.everyone();
        }
    }

    /** RHYTHMS by which SMITHS pull, and how long they HOLD all fires. */
    private static final class Rhythms {
        final int[] best = new int[MOST_SMITHS];
        /** Behind how many MINUTES they first don't HOLD, and by whose HEAT; NONE: they HOLD for ever. */
        int brokenBehind;
        int brokenBy;
        private int length;
        private final int[] pulls = new int[MOST_SMITHS];
        private final int[] change = new int[MOST_LENGTH];

        void takeRow(NumberRow row, int ofLength) {
            length = ofLength;
            for (int i = 0; i < MOST_SMITHS; i++) {
                pulls[i] = (int) row.numbers[i] & everyTime();
            }
        }

        void takeWave(int ofLength, int step) {
            length = ofLength;
            for (int i = 0; i < MOST_SMITHS; i++) {
                pulls[i] = 1 << Math.floorMod(i * step, length);
            }
        }

        private int everyTime() {
            return (1 << length) - 1;
        }

        void judgeOn(Street street) {
            brokenBehind = NONE;
            brokenBy = NONE;
            for (int fire = 0; fire < street.size; fire++) {
                int behind = breaksBehind(street, fire);
                if (behind != NONE && (brokenBehind == NONE || behind < brokenBehind)) {
                    brokenBehind = behind;
                    brokenBy = fire;
                }
            }
        }

        private boolean holdAll(Street street) {
            for (int fire = 0; fire < street.size; fire++) {
                if (breaksBehind(street, fire) != NONE) {
                    return false;
                }
            }
            return true;
        }

        /**
         * More HEAT at the beginning of a round is never less at its end, so HEATS from round to round only rise or
         * only fall, and stand still before they have gone through all that there are.
         */
        private int breaksBehind(Street street, int fire) {
            weighChanges(street, fire);
            int heat = street.heat[fire];
            for (int round = 0; round <= MOST_HEAT + 1; round++) {
                int before = heat;
                for (int t = 0; t < length; t++) {
                    heat = bounded(heat + change[t]);
                    if (!street.isWorkableAt(fire, heat)) {
                        return round * length + t + 1;
                    }
                }
                if (heat == before) {
                    return NONE;
                }
            }
            return NONE;
        }

        private void weighChanges(Street street, int fire) {
            for (int t = 0; t < length; t++) {
                change[t] = -street.cool[fire];
            }
            for (int i = 0; i < street.size; i++) {
                if (street.to[i] == fire) {
                    for (int t = 0; t < length; t++) {
                        change[t] += isIn(pulls[i], t) ? street.blast[i] : 0;
                    }
                }
            }
        }

        int evenOnes(Street street) {
            int found = 0;
            for (int fire = 0; fire < street.size; fire++) {
                weighChanges(street, fire);
                int sum = 0;
                for (int t = 0; t < length; t++) {
                    sum += change[t];
                }
                found |= sum == 0 ? 1 << fire : 0;
            }
            return found;
        }

        /** The pulls of the BEST ROUND, whose numbers are then in best; NONE: none HOLDS. */
        int seekBestRound(Street street, int ofLength) {
            length = ofLength;
            int fewest = NONE;
            // SMITH 0's number stands highest, so that what comes first by numbers comes first
            for (int all = 0; all < 1 << street.size * length; all++) {
                int together = Integer.bitCount(all);
                if (fewest != NONE && together >= fewest) {
                    continue;
                }
                for (int i = 0; i < street.size; i++) {
                    pulls[i] = all >> (street.size - 1 - i) * length & everyTime();
                }
                if (holdAll(street)) {
                    fewest = together;
                    System.arraycopy(pulls, 0, best, 0, MOST_SMITHS);
                }
            }
            return fewest;
        }
    }

    /** Seeks the SOONEST end of all PIECES over all STATES, of which each is one long. */
    private static final class Search {
        private static final int MOST_STATES = 3000;
        private static final int SLOTS = 8192;
        private static final int SLOT_SHIFT = 51;
        private static final long SPREADING = -7046029254386353131L;
        private static final int HEAT_BITS = 8;
        private static final int STROKE_BITS = 5;
        private static final int SMITH_BITS = HEAT_BITS + STROKE_BITS;

        private final long[] states = new long[MOST_STATES + 1];
        /** Where a STATE stands in states, and 1; 0: the slot is free. */
        private final int[] slots = new int[SLOTS];
        private int met;
        private final int[] heat = new int[MOST_SOUGHT];
        private final int[] strokes = new int[MOST_SOUGHT];
        private final int[] heatNext = new int[MOST_SOUGHT];
        /** By how much the HEAT of i changes, if a set of SMITHS pulls: at MOST_SOUGHT times the set and i. */
        private final int[] change = new int[MOST_SOUGHT << MOST_SOUGHT];

        /** For a street whose PIECES are not all DONE. */
        int minutesToEnd(Street street) {
            Arrays.fill(slots, 0);
            met = 0;
            weighChanges(street);
            meetPresent(street);
            int first = 0;
            for (int minutes = 1; minutes <= MOST_STATES + 1; minutes++) {
                int last = met;
                for (int k = first; k < last; k++) {
                    if (endsNext(street, states[k])) {
                        return minutes;
                    }
                }
                // nothing more is asked of this MINUTE once too many STATES were met
                for (int k = first; k < last && met <= MOST_STATES; k++) {
                    goOnFrom(street, states[k]);
                }
                if (met > MOST_STATES) {
                    return TOO_MANY;
                }
                if (met == last) {
                    return NONE;
                }
                first = last;
            }
            return NONE;
        }

        private void weighChanges(Street street) {
            for (int pull = 0; pull <= street.everyone(); pull++) {
                for (int i = 0; i < street.size; i++) {
                    change[MOST_SOUGHT * pull + i] = street.blastOn(i, pull) - street.cool[i];
                }
            }
        }

        private void meetPresent(Street street) {
            long state = 0;
            for (int i = 0; i < street.size; i++) {
                state |= packed(i, street.heat[i], Math.min(street.strokes[i], street.need[i]));
            }
            meet(state);
        }

        private static long packed(int i, int someHeat, int someStrokes) {
            return (long) (someHeat << STROKE_BITS | someStrokes) << i * SMITH_BITS;
        }

        private void unpack(Street street, long state) {
            for (int i = 0; i < street.size && i < MOST_SOUGHT; i++) {
                int part = (int) (state >> i * SMITH_BITS);
                strokes[i] = part & (1 << STROKE_BITS) - 1;
                heat[i] = part >> STROKE_BITS & (1 << HEAT_BITS) - 1;
            }
        }

        private boolean canStrike(Street street, int i) {
            return strokes[i] < street.need[i] && street.isWorkableAt(i, heat[i]);
        }

        /** All are DONE behind the next MINUTE just if each who isn't lacks one stroke that can count. */
        private boolean endsNext(Street street, long state) {
            unpack(street, state);
            for (int i = 0; i < street.size; i++) {
                boolean done = strokes[i] >= street.need[i];
                if (!done && (strokes[i] + 1 < street.need[i] || !canStrike(street, i))) {
                    return false;
                }
            }
            return true;
        }

        private void goOnFrom(Street street, long state) {
            unpack(street, state);
            int able = 0;
            for (int i = 0; i < street.size; i++) {
                able |= canStrike(street, i) ? 1 << i : 0;
            }
            // a stroke that doesn't count is as a rest: only those who are able need to strike
            for (int pull = 0; pull <= street.everyone(); pull++) {
                for (int i = 0; i < street.size; i++) {
                    heatNext[i] = bounded(heat[i] + change[MOST_SOUGHT * pull + i]);
                }
                for (int strike = 0; strike <= able; strike++) {
                    if ((strike & ~able) == 0 && (strike & pull) == 0) {
                        meet(behindStrokes(street, strike));
                    }
                }
            }
        }

        private long behindStrokes(Street street, int strike) {
            long state = 0;
            for (int i = 0; i < street.size; i++) {
                int has = isIn(strike, i) ? strokes[i] + 1 : strokes[i];
                if (has < street.need[i] && heatNext[i] > street.high[i]) {
                    has = Math.max(0, has - street.loss);
                }
                state |= packed(i, heatNext[i], has);
            }
            return state;
        }

        private void meet(long state) {
            int slot = (int) (state * SPREADING >>> SLOT_SHIFT);
            for (int k = 0; k < SLOTS && slots[slot] != 0; k++) {
                if (states[slots[slot] - 1] == state) {
                    return;
                }
                slot = slot + 1 < SLOTS ? slot + 1 : 0;
            }
            if (met <= MOST_STATES) {
                states[met] = state;
                met++;
                slots[slot] = met;
            }
        }
    }

    /** ROPES ANEW: all SMITHS in one RING. */
    private static final class Layout {
        int bestSum;
        final int[] best = new int[MOST_LAID];
        private final int[] to = new int[MOST_LAID];

        void seekBest(Street street) {
            bestSum = NONE;
            Arrays.fill(to, NONE);
            layFrom(street, 0, 0, 0);
        }

        /** Lays the ropes of a SMITH and of all behind him; the ways come in the order in which the first one counts. */
        private void layFrom(Street street, int smith, int taken, int sum) {
            if (bestSum != NONE && sum >= bestSum) {
                return;
            }
            if (smith >= street.size || smith >= MOST_LAID) {
                bestSum = sum;
                System.arraycopy(to, 0, best, 0, MOST_LAID);
                return;
            }
            for (int fire = 0; fire < street.size; fire++) {
                if (!isIn(taken, fire) && !closesTooSoon(street, smith, fire)) {
                    to[smith] = fire;
                    int far = Math.abs(street.blast[smith] - street.cool[fire]);
                    layFrom(street, smith + 1, taken | 1 << fire, sum + far);
                    to[smith] = NONE;
                }
            }
        }

        /** The last SMITH closes the RING, and none ahead of him may. */
        private boolean closesTooSoon(Street street, int smith, int fire) {
            int at = fire;
            for (int k = 0; k < street.size && at != NONE; k++) {
                if (at == smith) {
                    return smith < street.size - 1;
                }
                at = to[at];
            }
            return false;
        }
    }
}
