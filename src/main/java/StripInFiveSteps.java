/**
 * Finds the right second for a sheet by test strips: what may be right, what a strip would tell of it,
 * which strip is best, and whether another strip is worth its price.
 *
 * A set of SECONDS is a long whose bit r stands for SECOND r: what is left behind a told strip is then one "and".
 * All rows are made in the constructors, so that no call makes an object.
 */
public final class StripInFiveSteps {
    private static final int LAST_SECOND = 40;
    private static final int MOST_LIKELY = 9;
    private static final int MOST_TRIED = 99;
    private static final int MOST_BANDS = 7;
    private static final int LONGEST_BAND = 240;
    private static final int NO_BAND = 8;
    private static final int TOLD_BANDS = 9;

    private static final int BANDS = 0;
    private static final int STEP = 1;
    private static final int FIGURE = 2;
    private static final int PRICE = 3;
    private static final int FAULT = 4;
    private static final int NUMBERS = 5;
    private static final int[] LEAST = {2, 1, 0, 0, 0};
    private static final int[] GREATEST = {7, 9, 9, 99, 99};

    private static final int DOUBLING = 1;
    private static final int HALFWAY = 2;
    private static final int BACK = 3;
    private static final int STRIP_KINDS = 4;
    private static final String STRIP_LETTERS = "adhb";

    private static final int WET = 1;
    private static final int DRY = 2;
    private static final int SLOW = 3;
    private static final int CAREFUL = 4;
    private static final int EYE_KINDS = 5;
    private static final String EYE_LETTERS = "ewdsc";

    private static final int BY_WORST = 0;
    private static final int BY_MEAN = 1;
    private static final int BY_PARTS = 2;

    private static final int MOST_LETTERS = 96;
    private static final int GREATEST_LETTER = 255;
    private static final int MOST_IN_ROW = 12;
    private static final int GREATEST_IN_ROW = 99;
    private static final int MOST_STRIPS = 12;
    private static final int MOST_COUNTED = 20;

    private static final int NONE = -9;
    private static final int NOBODY = -1;
    private static final int OTHER = -2;
    private static final int STATE = -3;
    private static final int BELOW = -4;
    private static final int ROOM = -6;
    private static final int REFUSALS = 7;
    private static final long OF_LONGS = 4000000000000000000L;

    private final Shed now = new Shed();
    private final Shed draft = new Shed();
    private final Shed kept = new Shed();
    private boolean imageTaken = false;
    private final Strip strip = new Strip();
    private final Strips strips = new Strips();
    private final Text text = new Text();
    private final int[] rowNumbers = new int[MOST_IN_ROW];
    private int rowSize = 0;
    private final int[] refusals = new int[REFUSALS];

    public StripInFiveSteps() {
    }

    public int letter(int c) {
        if (c < 0) return refuse(BELOW);
        if (c > GREATEST_LETTER || text.isFull()) return refuse(ROOM);
        return text.add(c);
    }

    public int shed() {
        draft.copyFrom(now);
        int answer = text.readInto(draft, strip);
        text.clear();
        if (answer > 0) now.copyFrom(draft);
        return answer;
    }

    public int likely(int r) {
        if (!isSecond(r)) return refuse(NOBODY);
        return now.weights[r];
    }

    public int make(int r, int v) {
        if (!isSecond(r)) return refuse(NOBODY);
        if (v < 0) return refuse(BELOW);
        if (v > MOST_LIKELY) return refuse(ROOM);
        int before = now.weights[r];
        now.weights[r] = v;
        return before;
    }

    public int set(int what, int v) {
        if (what < 0 || what >= NUMBERS) return refuse(OTHER);
        if (v < LEAST[what]) return refuse(BELOW);
        if (v > GREATEST[what]) return refuse(ROOM);
        int before = now.numbers[what];
        now.numbers[what] = v;
        return before;
    }

    public int kind(int what, int k) {
        if (what == 0 && isStripKind(k)) {
            int before = now.stripKind;
            now.stripKind = k;
            return before;
        }
        if (what == 1 && isEyeKind(k)) {
            int before = now.eyeKind;
            now.eyeKind = k;
            return before;
        }
        return refuse(OTHER);
    }

    public int band(int v, int i) {
        if (!isSecond(v) || !isBand(i)) return refuse(NOBODY);
        strip.lay(now, now.stripKind, v);
        return strip.secondsAt(i);
    }

    public int told(int v, int r) {
        if (!isSecond(v) || !isSecond(r)) return refuse(NOBODY);
        strip.lay(now, now.stripKind, v);
        return strip.tell(now.eyeKind, now.numbers[FIGURE], r);
    }

    public int tryIt(int v, int k) {
        if (!isSecond(v) || !canBeTold(k)) return refuse(NOBODY);
        long behind = now.leftIfTold(strip, v, k);
        if (behind == 0) return refuse(STATE);
        if (now.tried >= MOST_TRIED) return refuse(ROOM);
        now.tryDownTo(behind);
        return size(behind);
    }

    public int parts(int v) {
        if (!isSecond(v)) return refuse(NOBODY);
        strips.take(now, now.stripKind);
        return strips.partsOf(v, now.left());
    }

    public int worst(int v) {
        if (!isSecond(v)) return refuse(NOBODY);
        strips.take(now, now.stripKind);
        return strips.worstOf(v, now.left());
    }

    public long mean(int v, int part) {
        if (!isSecond(v)) return refuseLong(NOBODY);
        if (!isPart(part)) return refuseLong(OTHER);
        strips.take(now, now.stripKind);
        return fraction(strips.meanOf(v, now, now.left()), now.weightOf(now.left()), part);
    }

    public int best(int by) {
        if (!isMeasure(by)) return refuse(OTHER);
        if (now.left() == 0) return refuse(STATE);
        strips.take(now, now.stripKind);
        return strips.bestBy(by, now, now.left());
    }

    public long bestOf(int by, int part) {
        if (!isMeasure(by) || !isPart(part)) return refuseLong(OTHER);
        long left = now.left();
        if (left == 0) return refuseLong(STATE);
        strips.take(now, now.stripKind);
        int v = strips.bestBy(by, now, left);
        if (by == BY_MEAN) return fraction(strips.meanOf(v, now, left), now.weightOf(left), part);
        return fraction(by == BY_PARTS ? strips.partsOf(v, left) : strips.worstOf(v, left), 1, part);
    }

    public int bestKind() {
        long left = now.left();
        if (left == 0) return refuse(STATE);
        int bestKind = 0;
        int least = LAST_SECOND + 1;
        for (int kind = 0; kind < STRIP_KINDS; kind++) {
            strips.take(now, kind);
            int worst = strips.worstOf(strips.bestBy(BY_WORST, now, left), left);
            if (worst < least) {
                least = worst;
                bestKind = kind;
            }
        }
        return bestKind;
    }

    public int give() {
        long left = now.left();
        if (left == 0) return refuse(STATE);
        return now.sheetFor(left);
    }

    public long faults(int part) {
        if (!isPart(part)) return refuseLong(OTHER);
        long left = now.left();
        if (left == 0) return refuseLong(STATE);
        return fraction(now.leastFaults(left), now.weightOf(left), part);
    }

    public int goOn() {
        long left = now.left();
        if (left == 0) return refuse(STATE);
        // Both stand over the same WEIGHT, so that what is above the line is enough to compare.
        long tryingOn = (long) now.numbers[PRICE] * now.weightOf(left) + faultsBehindStrip(left);
        return tryingOn < now.leastFaults(left) ? 1 : 0;
    }

    public long goOnCosts(int part) {
        if (!isPart(part)) return refuseLong(OTHER);
        long left = now.left();
        if (left == 0) return refuseLong(STATE);
        long weight = now.weightOf(left);
        return fraction(now.numbers[PRICE] * weight + faultsBehindStrip(left), weight, part);
    }

    public int enough(int r) {
        if (!isSecond(r)) return refuse(NOBODY);
        long left = now.left();
        if (!holds(left, r)) return refuse(STATE);
        strips.take(now, now.stripKind);
        strips.plan(now, left, 0);
        return strips.enoughFor[r];
    }

    public int most() {
        long left = now.left();
        if (left == 0) return refuse(STATE);
        strips.take(now, now.stripKind);
        strips.plan(now, left, 0);
        int most = 0;
        for (int r = 1; r <= LAST_SECOND; r++) {
            if (!holds(left, r)) continue;
            if (strips.enoughFor[r] == NONE) return NONE;
            most = Math.max(most, strips.enoughFor[r]);
        }
        return most;
    }

    public int fewest() {
        int left = size(now.left());
        if (left == 0) return refuse(STATE);
        int ways = now.numbers[BANDS] + (now.eyeKind == CAREFUL ? 1 : 0);
        int told = 1;
        int n = 0;
        while (told < left && n < LAST_SECOND) {
            told *= ways;
            n++;
        }
        return n;
    }

    public int rule(int v, int k, int what) {
        if (!isSecond(v) || !canBeTold(k)) return refuse(NOBODY);
        if (what < 0 || what > 2) return refuse(OTHER);
        long behind = now.leftIfTold(strip, v, k);
        if (what == 0) return size(behind);
        return what == 1 ? shortestOf(behind) : longestOf(behind);
    }

    public int twoEyes(int v, int a, int b, int what) {
        if (!isSecond(v)) return refuse(NOBODY);
        if (!isEyeKind(a) || !isEyeKind(b) || what < 0 || what > 1) return refuse(OTHER);
        long unlike = now.left() & toldUnlike(v, a, b);
        return what == 0 ? size(unlike) : shortestOf(unlike);
    }

    public int whose(int what) {
        if (what < 0 || what > 1) return refuse(OTHER);
        if (!isRowOfThrees()) return refuse(STATE);
        int bits = 0;
        int among = what == 0 ? EYE_KINDS : GREATEST[FIGURE] + 1;
        for (int i = 0; i < among; i++) {
            int eye = what == 0 ? i : now.eyeKind;
            int figure = what == 0 ? now.numbers[FIGURE] : i;
            if (rowIsToldBy(eye, figure)) bits |= 1 << i;
        }
        return bits;
    }

    public int limit(int what) {
        long left = now.left();
        switch (what) {
            case 0: return shortestOf(left);
            case 1: return longestOf(left);
            case 2: return now.middle();
            default: return refuse(OTHER);
        }
    }

    public long costs(int n, int v, int part) {
        if (n < 0) return refuseLong(BELOW);
        if (n > MOST_COUNTED) return refuseLong(ROOM);
        if (!isSecond(v)) return refuseLong(NOBODY);
        if (!isPart(part)) return refuseLong(OTHER);
        long left = now.left();
        if (left == 0) return refuseLong(STATE);
        long weight = now.weightOf(left);
        return fraction(now.numbers[PRICE] * n * weight + now.faultsAt(v, left), weight, part);
    }

    public int worth() {
        long left = now.left();
        if (left == 0) return refuse(STATE);
        long weight = now.weightOf(left);
        long saved = now.leastFaults(left) - faultsBehindStrip(left);
        int price = GREATEST[PRICE];
        while (price >= 0 && price * weight >= saved) price--;
        return price >= 0 ? price : NONE;
    }

    public int row(int v) {
        if (v < 0) return refuse(BELOW);
        if (v > GREATEST_IN_ROW || rowSize >= MOST_IN_ROW) return refuse(ROOM);
        rowNumbers[rowSize] = v;
        rowSize++;
        return rowSize;
    }

    public int stays() {
        long left = now.left();
        for (int i = 0; i < rowSize; i += 2) {
            long behind = leftBehindTwo(i, left);
            if (behind == 0) break;
            left = behind;
        }
        return size(left);
    }

    public int judge() {
        long left = now.left();
        int answer = NONE;
        for (int i = 0; i < rowSize && answer == NONE; i += 2) {
            left = leftBehindTwo(i, left);
            if (left == 0) answer = i / 2;
        }
        rowSize = 0;
        return answer;
    }

    public int lots(int n, int z) {
        if (n < 1) return refuse(BELOW);
        if (n > MOST_COUNTED) return refuse(ROOM);
        long left = now.left();
        strips.take(now, now.stripKind);
        strips.plan(now, left, 0);
        int together = 0;
        int seed = z;
        for (int i = 0; i < n; i++) {
            seed = seed * 1664525 + 1013904223;
            int r = (seed & 0x7fffffff) / 256 % LAST_SECOND + 1;
            if (!holds(left, r)) continue;
            together += strips.enoughFor[r] == NONE ? MOST_STRIPS : strips.enoughFor[r];
        }
        return together;
    }

    public int image() {
        kept.copyFrom(now);
        imageTaken = true;
        return size(now.left());
    }

    public int on() {
        if (!imageTaken) return refuse(STATE);
        now.copyFrom(kept);
        return size(now.left());
    }

    public int count(int what) {
        if (what >= 3 && what < 3 + NUMBERS) return now.numbers[what - 3];
        if (what > 10 && what < 10 + REFUSALS) return refusals[what - 10];
        switch (what) {
            case 0: return size(now.left());
            case 1: return now.weightOf(now.left());
            case 2: return now.tried;
            case 8: return rowSize;
            case 9: return text.size;
            default: return NONE;
        }
    }

    private int refuse(int number) {
        int at = -number;
        if (at > 0 && at < REFUSALS) refusals[at]++;
        return number;
    }

    private long refuseLong(int number) {
        return OF_LONGS - refuse(number);
    }

    private boolean isBand(int i) {
        return i >= 0 && i < now.numbers[BANDS];
    }

    private boolean canBeTold(int k) {
        return isBand(k) || k == NO_BAND;
    }

    private long faultsBehindStrip(long left) {
        strips.take(now, now.stripKind);
        return strips.faultsBehind(strips.bestBy(BY_WORST, now, left), now, left);
    }

    private long toldUnlike(int v, int a, int b) {
        long unlike = 0;
        int figure = now.numbers[FIGURE];
        strip.lay(now, now.stripKind, v);
        for (int r = 1; r <= LAST_SECOND; r++) {
            if (strip.tell(a, figure, r) != strip.tell(b, figure, r)) unlike |= 1L << r;
        }
        return unlike;
    }

    private boolean isRowOfThrees() {
        if (rowSize % 3 != 0) return false;
        for (int i = 0; i + 2 < rowSize; i += 3) {
            if (!isSecond(rowNumbers[i]) || !isSecond(rowNumbers[i + 1]) || rowNumbers[i + 2] > NO_BAND) return false;
        }
        return true;
    }

    private boolean rowIsToldBy(int eye, int figure) {
        for (int i = 0; i + 2 < rowSize; i += 3) {
            strip.lay(now, now.stripKind, rowNumbers[i]);
            if (strip.tell(eye, figure, rowNumbers[i + 1]) != rowNumbers[i + 2]) return false;
        }
        return true;
    }

    /** What is left behind the two of the ROW from that place on; nothing, if they can not be. */
    private long leftBehindTwo(int place, long left) {
        if (place < 0 || place + 1 >= rowSize || !isSecond(rowNumbers[place])) return 0;
        return left & now.leftIfTold(strip, rowNumbers[place], rowNumbers[place + 1]);
    }

    private static boolean isSecond(int r) {
        return r >= 1 && r <= LAST_SECOND;
    }

    private static boolean isStripKind(int k) {
        return k >= 0 && k < STRIP_KINDS;
    }

    private static boolean isEyeKind(int k) {
        return k >= 0 && k < EYE_KINDS;
    }

    private static boolean isPart(int part) {
        return part == 0 || part == 1;
    }

    private static boolean isMeasure(int by) {
        return by >= BY_WORST && by <= BY_PARTS;
    }

    private static boolean holds(long seconds, int r) {
        return (seconds >> r & 1) != 0;
    }

    private static int size(long seconds) {
        return Long.bitCount(seconds);
    }

    private static int shortestOf(long seconds) {
        for (int r = 1; r <= LAST_SECOND; r++) {
            if (holds(seconds, r)) return r;
        }
        return NONE;
    }

    private static int longestOf(long seconds) {
        for (int r = LAST_SECOND; r >= 1; r--) {
            if (holds(seconds, r)) return r;
        }
        return NONE;
    }

    /** One part of a fraction in least terms; 0 by 1, if nothing stands below the line. */
    private static long fraction(long above, long below, int part) {
        long common = commonDivisor(above, below);
        if (below <= 0 || common <= 0) return part == 0 ? 0 : 1;
        return (part == 0 ? above : below) / common;
    }

    private static long commonDivisor(long a, long b) {
        long greater = a;
        long smaller = b;
        // A hundred turns are more than any two longs need.
        for (int turn = 0; turn < 100 && smaller != 0; turn++) {
            long rest = greater % smaller;
            greater = smaller;
            smaller = rest;
        }
        return greater;
    }

    /** All that THE IMAGE holds: how LIKELY the SECONDS are, the numbers, the KINDS, how many strips were TRIED. */
    private static final class Shed {
        final int[] weights = new int[LAST_SECOND + 1];
        final int[] numbers = {5, 2, 0, 5, 4};
        int stripKind = 0;
        int eyeKind = 0;
        int tried = 0;

        Shed() {
            for (int r = 1; r <= LAST_SECOND; r++) weights[r] = 1;
        }

        void copyFrom(Shed other) {
            for (int r = 1; r <= LAST_SECOND; r++) weights[r] = other.weights[r];
            for (int i = 0; i < NUMBERS; i++) numbers[i] = other.numbers[i];
            stripKind = other.stripKind;
            eyeKind = other.eyeKind;
            tried = other.tried;
        }

        boolean putNumber(int what, int v) {
            if (what < 0 || what >= NUMBERS || v < LEAST[what] || v > GREATEST[what]) return false;
            numbers[what] = v;
            return true;
        }

        boolean putLikely(int from, int to, int v) {
            if (!isSecond(from) || !isSecond(to) || from > to || v < 0 || v > MOST_LIKELY) return false;
            for (int r = from; r <= to; r++) weights[r] = v;
            return true;
        }

        long left() {
            long left = 0;
            for (int r = 1; r <= LAST_SECOND; r++) {
                if (weights[r] > 0) left |= 1L << r;
            }
            return left;
        }

        int weightOf(long seconds) {
            int weight = 0;
            for (int r = 1; r <= LAST_SECOND; r++) {
                if (holds(seconds, r)) weight += weights[r];
            }
            return weight;
        }

        int middle() {
            int all = weightOf(left());
            int weight = 0;
            for (int r = 1; r <= LAST_SECOND && all > 0; r++) {
                weight += weights[r];
                if (2 * weight >= all) return r;
            }
            return NONE;
        }

        long leftIfTold(Strip strip, int v, int k) {
            long left = 0;
            strip.lay(this, stripKind, v);
            for (int r = 1; r <= LAST_SECOND; r++) {
                if (weights[r] > 0 && strip.tell(eyeKind, numbers[FIGURE], r) == k) left |= 1L << r;
            }
            return left;
        }

        void tryDownTo(long seconds) {
            for (int r = 1; r <= LAST_SECOND; r++) {
                if (!holds(seconds, r)) weights[r] = 0;
            }
            tried++;
        }

        /** FAULTS of a sheet at v, times WEIGHT. */
        long faultsAt(int v, long seconds) {
            long off = 0;
            for (int r = 1; r <= LAST_SECOND; r++) {
                if (holds(seconds, r)) off += weights[r] * Math.abs(v - r);
            }
            return off * numbers[FAULT];
        }

        int sheetFor(long seconds) {
            int sheet = 1;
            long least = faultsAt(1, seconds);
            for (int v = 2; v <= LAST_SECOND; v++) {
                long faults = faultsAt(v, seconds);
                if (faults < least) {
                    least = faults;
                    sheet = v;
                }
            }
            return sheet;
        }

        long leastFaults(long seconds) {
            return faultsAt(sheetFor(seconds), seconds);
        }
    }

    /** One strip: the SECONDS of its bands, and what EYES tell of it. */
    private static final class Strip {
        private final int[] seconds = new int[MOST_BANDS];
        private int bands = 0;

        void lay(Shed shed, int kind, int v) {
            bands = Math.min(shed.numbers[BANDS], MOST_BANDS);
            for (int i = 0; i < bands; i++) {
                seconds[i] = Math.min(LONGEST_BAND, secondsOf(kind, v, i, bands, shed.numbers[STEP]));
            }
        }

        int secondsAt(int i) {
            return i >= 0 && i < bands ? seconds[i] : NONE;
        }

        private static int secondsOf(int kind, int v, int i, int bands, int step) {
            int more = i == 0 ? 0 : step - 1;
            switch (kind) {
                case DOUBLING: return doubled(v, i) + more;
                case HALFWAY: return halfway(v, i) + more;
                case BACK: return v + (bands - 1 - i) * step;
                default: return v + i * step;
            }
        }

        private static int doubled(int v, int times) {
            int seconds = v;
            for (int i = 0; i < times; i++) seconds *= 2;
            return seconds;
        }

        private static int halfway(int v, int times) {
            int seconds = v;
            for (int i = 0; i < times; i++) seconds += (seconds + 1) / 2;
            return seconds;
        }

        /** The BAND that an EYE tells, if r is right. */
        int tell(int eye, int figure, int r) {
            int sought = r + soughtPast(eye, figure);
            boolean slow = eye == SLOW || eye == CAREFUL;
            int found = 0;
            int least = Math.abs(seconds[0] - sought);
            for (int i = 1; i < bands; i++) {
                int off = Math.abs(seconds[i] - sought);
                boolean rather = slow ? seconds[i] >= seconds[found] : seconds[i] < seconds[found];
                if (off < least || off == least && rather) {
                    found = i;
                    least = off;
                }
            }
            return eye == CAREFUL && least > figure ? NO_BAND : found;
        }

        private static int soughtPast(int eye, int figure) {
            if (eye == WET) return figure;
            return eye == DRY ? Math.max(0, figure - 1) : 0;
        }
    }

    /**
     * All strips of a KIND: by v and BAND, the SECONDS for which it is told.
     * They are laid anew only when what they come from has changed: a plan looks at them some thousand times.
     */
    private static final class Strips {
        private static final int OF_A_KIND = (LAST_SECOND + 1) * TOLD_BANDS;

        private final long[] told = new long[STRIP_KINDS * OF_A_KIND];
        private final int[] laidBy = new int[STRIP_KINDS];
        private final Strip strip = new Strip();
        private int kindAt = 0;
        final int[] enoughFor = new int[LAST_SECOND + 1];

        /** The KIND that the calls behind this one ask of. */
        void take(Shed shed, int kind) {
            if (!isStripKind(kind)) return;
            kindAt = kind * OF_A_KIND;
            // BANDS are 2 at least, so that no settings are 0, which stands for "never laid".
            int settings = shed.eyeKind;
            settings = settings * 10 + shed.numbers[FIGURE];
            settings = settings * 10 + shed.numbers[STEP];
            settings = settings * 10 + shed.numbers[BANDS];
            if (laidBy[kind] == settings) return;
            laidBy[kind] = settings;
            for (int v = 1; v <= LAST_SECOND; v++) layFrom(shed, kind, v);
        }

        private void layFrom(Shed shed, int kind, int v) {
            int at = kindAt + v * TOLD_BANDS;
            for (int k = 0; k < TOLD_BANDS; k++) told[at + k] = 0;
            strip.lay(shed, kind, v);
            for (int r = 1; r <= LAST_SECOND; r++) {
                int k = strip.tell(shed.eyeKind, shed.numbers[FIGURE], r);
                if (k >= 0 && k < TOLD_BANDS) told[at + k] |= 1L << r;
            }
        }

        private long toldOf(int v, int k) {
            return isSecond(v) && k >= 0 && k < TOLD_BANDS ? told[kindAt + v * TOLD_BANDS + k] : 0;
        }

        int partsOf(int v, long left) {
            int parts = 0;
            for (int k = 0; k < TOLD_BANDS; k++) {
                if ((toldOf(v, k) & left) != 0) parts++;
            }
            return parts;
        }

        int worstOf(int v, long left) {
            int worst = 0;
            for (int k = 0; k < TOLD_BANDS; k++) {
                long part = toldOf(v, k) & left;
                if (part != 0) worst = Math.max(worst, size(part));
            }
            return worst;
        }

        /** MEAN, times all WEIGHT. */
        long meanOf(int v, Shed shed, long left) {
            long mean = 0;
            for (int k = 0; k < TOLD_BANDS; k++) {
                long part = toldOf(v, k) & left;
                if (part != 0) mean += (long) shed.weightOf(part) * size(part);
            }
            return mean;
        }

        int bestBy(int by, Shed shed, long left) {
            int best = 1;
            long least = measured(by, 1, shed, left);
            for (int v = 2; v <= LAST_SECOND; v++) {
                long measure = measured(by, v, shed, left);
                if (measure < least) {
                    least = measure;
                    best = v;
                }
            }
            return best;
        }

        private long measured(int by, int v, Shed shed, long left) {
            switch (by) {
                case BY_MEAN: return meanOf(v, shed, left);
                case BY_PARTS: return -partsOf(v, left);
                default: return worstOf(v, left);
            }
        }

        /** FAULTS of the sheets that one would GIVE behind a strip from v, times WEIGHT. */
        long faultsBehind(int v, Shed shed, long left) {
            long faults = 0;
            for (int k = 0; k < TOLD_BANDS; k++) {
                long part = toldOf(v, k) & left;
                if (part != 0) faults += shed.leastFaults(part);
            }
            return faults;
        }

        /** Finds ENOUGH for all that are left at once: those that are told alike go the same way. */
        void plan(Shed shed, long left, int tried) {
            int seconds = size(left);
            if (seconds <= 1 || tried >= MOST_STRIPS) {
                noteEnough(left, seconds == 1 ? tried : NONE);
                return;
            }
            int v = bestBy(BY_WORST, shed, left);
            if (worstOf(v, left) >= seconds) {
                noteEnough(left, NONE);
                return;
            }
            for (int k = 0; k < TOLD_BANDS; k++) {
                long part = toldOf(v, k) & left;
                if (part != 0) plan(shed, part, tried + 1);
            }
        }

        private void noteEnough(long seconds, int n) {
            for (int r = 1; r <= LAST_SECOND; r++) {
                if (holds(seconds, r)) enoughFor[r] = n;
            }
        }
    }

    /** The letters that have come, and how they are read. */
    private static final class Text {
        private static final int END = -1;
        private static final int MISFIT = -1000;
        private static final int WRONG = -2000;

        private final int[] letters = new int[MOST_LETTERS];
        int size = 0;

        boolean isFull() {
            return size >= MOST_LETTERS;
        }

        int add(int c) {
            if (!isFull()) {
                letters[size] = c;
                size++;
            }
            return size;
        }

        void clear() {
            size = 0;
        }

        /** How many STATEMENTS came into the SHED, or the FAULT; with a FAULT the SHED is of no use. */
        int readInto(Shed shed, Strip strip) {
            int misfit = firstMisfit();
            if (misfit >= 0) return MISFIT - misfit;
            int statements = 0;
            for (int start = 0; start < size; start += 1 + formOf(letterAt(start)).length()) {
                if (!comes(start, shed, strip)) return WRONG - start;
                statements++;
            }
            return statements;
        }

        private int firstMisfit() {
            int place = 0;
            do {
                String form = formOf(letterAt(place));
                if (form.isEmpty()) return place;
                place++;
                for (int i = 0; i < form.length(); i++) {
                    if (!fits(form.charAt(i), letterAt(place))) return place;
                    place++;
                }
            } while (place < size);
            return NONE;
        }

        /** What goes behind a STATEMENT's first letter: "0" a digit, "s" and "e" a letter of a KIND; "" no such letter. */
        private static String formOf(int letter) {
            switch (letter) {
                case 'l': return "00000;";
                case 'b': return "0;";
                case 's': return "s0;";
                case 'e': return "e0;";
                case 'p': return "0000;";
                case 't': return "000;";
                default: return "";
            }
        }

        private static boolean fits(char form, int letter) {
            switch (form) {
                case '0': return letter >= '0' && letter <= '9';
                case 's': return kindOf(STRIP_LETTERS, letter) >= 0;
                case 'e': return kindOf(EYE_LETTERS, letter) >= 0;
                default: return letter == form;
            }
        }

        private boolean comes(int start, Shed shed, Strip strip) {
            switch (letterAt(start)) {
                case 'l': return shed.putLikely(pairAt(start + 1), pairAt(start + 3), digitAt(start + 5));
                case 'b': return shed.putNumber(BANDS, digitAt(start + 1));
                case 's': return stripKindComes(kindOf(STRIP_LETTERS, letterAt(start + 1)), digitAt(start + 2), shed);
                case 'e': return eyeKindComes(kindOf(EYE_LETTERS, letterAt(start + 1)), digitAt(start + 2), shed);
                case 'p': return shed.putNumber(PRICE, pairAt(start + 1)) && shed.putNumber(FAULT, pairAt(start + 3));
                case 't': return toldStripComes(pairAt(start + 1), digitAt(start + 3), shed, strip);
                default: return false;
            }
        }

        private static boolean stripKindComes(int kind, int step, Shed shed) {
            if (!isStripKind(kind)) return false;
            shed.stripKind = kind;
            return shed.putNumber(STEP, step);
        }

        private static boolean eyeKindComes(int kind, int figure, Shed shed) {
            if (!isEyeKind(kind)) return false;
            shed.eyeKind = kind;
            return shed.putNumber(FIGURE, figure);
        }

        private static boolean toldStripComes(int v, int k, Shed shed, Strip strip) {
            if (!isSecond(v) || shed.tried >= MOST_TRIED) return false;
            long behind = shed.leftIfTold(strip, v, k);
            if (behind == 0) return false;
            shed.tryDownTo(behind);
            return true;
        }

        private int letterAt(int place) {
            return place >= 0 && place < size && place < MOST_LETTERS ? letters[place] : END;
        }

        private int digitAt(int place) {
            return letterAt(place) - '0';
        }

        private int pairAt(int place) {
            return digitAt(place) * 10 + digitAt(place + 1);
        }

        private static int kindOf(String kinds, int letter) {
            return letter < 0 ? END : kinds.indexOf((char) letter);
        }
    }
}
