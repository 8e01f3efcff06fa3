/**
 * Rays that only one land could see: readers of samples, what they expect and say,
 * and what is left of it when the prism is taken out in the dark.
 */
public final class NewRays {
    public static final int UNKNOWN = -1, OUTSIDE = -2, STATE = -3, FULL = -4, NONE = -9;

    private static final int MOST_LETTERS = 36;
    private static final int MOST_READERS = 5;
    private static final int MOST_SAMPLES = 4;
    private static final int MOST_READINGS = 9;
    private static final int MOST_ACTS = 14;
    private static final int MOST_HEARD = 6;
    private static final int MOST_EXPECTED = 9;
    private static final int MOST_DOINGS = 4;
    private static final int MOST_GONE = 6;
    private static final int MOST_WINTERS = 30;
    private static final int SLOTS = 2;

    private static final int WISHFUL = 1;
    private static final int WEARY = 2;
    private static final int WORKMAN = 3;

    private static final long MULTIPLIER = 6364136223846793005L;
    private static final long INCREMENT = 1442695040888963407L;

    private static final int[] TENS = {1, 10, 100, 1000, 10000, 100000, 1000000, 10000000, 100000000};
    private static final int[] FACTORIALS = {1, 1, 2, 6, 24, 120};

    private final Text text;
    private final Room theRoom;
    private final Bench bench;
    private final Acts acts;
    private final Heard heard;
    private final Bench[] slots;
    private final boolean[] isKept;
    private long theSeed;

    // Rows of the queries, made once: what calls make is never given back.
    private final Bench trial;
    private final int[] bitsOf;
    private final int[] ways;

    public NewRays() {
        text = new Text();
        theRoom = new Room();
        bench = new Bench();
        acts = new Acts();
        heard = new Heard();
        slots = new Bench[SLOTS];
        for (int i = 0; i < SLOTS; i++) {
            slots[i] = new Bench();
        }
        isKept = new boolean[SLOTS];
        trial = new Bench();
        bitsOf = new int[MOST_SAMPLES];
        ways = new int[MOST_READERS + 1];
    }

    // ---- the room

    public int write(int letter) {
        if (letter < 0 || letter > 255) {
            return OUTSIDE;
        }
        return text.append(letter) ? text.length : FULL;
    }

    public int wipe() {
        int was = text.length;
        text.length = 0;
        return was;
    }

    public int fault() {
        return text.firstFault();
    }

    public int room() {
        if (text.firstFault() != NONE) {
            return STATE;
        }
        theRoom.make(text);
        bench.clear();
        acts.clear();
        for (int i = 0; i < SLOTS; i++) {
            isKept[i] = false;
        }
        return 10 * theRoom.readers + theRoom.samples;
    }

    public int reader(int reader, int what) {
        if (!theRoom.hasReader(reader)) {
            return UNKNOWN;
        }
        switch (what) {
            case 0: return theRoom.expects[reader];
            case 1: return theRoom.yesFrom[reader];
            case 2: return theRoom.kinds[reader];
            case 3: return bench.readingsOf(reader);
            default: return OUTSIDE;
        }
    }

    public int sample(int sample, int what) {
        if (!theRoom.hasSample(sample)) {
            return UNKNOWN;
        }
        switch (what) {
            case 0: return theRoom.brightness[sample];
            case 1: return sayingYes(sample);
            case 2: return Bench.printers(bench.yesPapers, sample);
            case 3: return Bench.printers(bench.noPapers, sample);
            default: return OUTSIDE;
        }
    }

    public int bright(int reader, int sample) {
        if (!theRoom.hasBoth(reader, sample)) {
            return UNKNOWN;
        }
        return bench.seenBy(theRoom, reader, sample);
    }

    // ---- acts

    public int read(int reader, int sample) {
        if (!theRoom.hasBoth(reader, sample)) {
            return UNKNOWN;
        }
        acts.remember(bench);
        return bench.takeReading(theRoom, reader, sample) ? 1 : 0;
    }

    public int rest(int reader) {
        if (!theRoom.hasReader(reader)) {
            return UNKNOWN;
        }
        int had = bench.readingsOf(reader);
        if (had == 0) {
            return STATE;
        }
        acts.remember(bench);
        bench.setReadings(reader, 0);
        return had;
    }

    public int withdraw(int reader, int sample) {
        if (!theRoom.hasBoth(reader, sample)) {
            return UNKNOWN;
        }
        int paper = Bench.paper(reader, sample);
        if ((bench.allPapers() & paper) == 0) {
            return STATE;
        }
        acts.remember(bench);
        int saidYes = (bench.yesPapers & paper) != 0 ? 1 : 0;
        bench.dropPaper(paper);
        return saidYes;
    }

    public int prism() {
        acts.remember(bench);
        bench.prismIn = !bench.prismIn;
        return bench.prismIn ? 1 : 0;
    }

    public int tell() {
        acts.remember(bench);
        bench.toldIn = !bench.toldIn;
        return bench.toldIn ? 1 : 0;
    }

    public int undo() {
        if (acts.size == 0) {
            return STATE;
        }
        acts.takeBack(bench);
        return acts.size;
    }

    // ---- who says what

    public int fooled(int sample) {
        if (!theRoom.hasSample(sample)) {
            return UNKNOWN;
        }
        return sayingYesIf(sample, false, true);
    }

    public int truly(int sample) {
        if (!theRoom.hasSample(sample)) {
            return UNKNOWN;
        }
        return sayingYesIf(sample, true, false) & ~sayingYesIf(sample, false, false);
    }

    public int cover() {
        int fit = theRoom.allReaders();
        for (int s = 0; s < theRoom.samples; s++) {
            bitsOf[s] = sayingYes(s);
            if (!theRoom.isBright(s)) {
                fit &= ~bitsOf[s];
            }
        }
        int best = NONE;
        for (int set = 0; set <= theRoom.allReaders(); set++) {
            boolean fewer = best == NONE || Integer.bitCount(set) < Integer.bitCount(best);
            if (fewer && (set & ~fit) == 0 && seesAllBright(set)) {
                best = set;
            }
        }
        return best;
    }

    public int wrong(boolean which) {
        int wrongPapers = 0;
        for (int s = 0; s < theRoom.samples; s++) {
            int yes = Bench.onSample(bench.yesPapers, s);
            int no = Bench.onSample(bench.noPapers, s);
            wrongPapers |= Integer.bitCount(yes) <= Integer.bitCount(no) ? yes : no;
        }
        return which ? wrongPapers : Integer.bitCount(wrongPapers);
    }

    public int judge(int n, int row) {
        if (n < 1 || n > MOST_DOINGS || !hasFigures(row, 2 * n)) {
            return OUTSIDE;
        }
        trial.copyFrom(bench);
        for (int place = 0; place < n; place++) {
            int behind = 2 * (n - 1 - place);
            if (!standsOnTrial(figure(row, behind + 1), figure(row, behind))) {
                return place;
            }
        }
        return NONE;
    }

    // ---- heard

    public int hear(int reader, int sample, int prism, int yes) {
        if (!theRoom.hasBoth(reader, sample)) {
            return UNKNOWN;
        }
        if (prism < 0 || prism > 1 || yes < 0 || yes > 1) {
            return OUTSIDE;
        }
        return heard.append(reader, sample, prism == 1, yes == 1) ? heard.size : FULL;
    }

    public int unhear() {
        int was = heard.size;
        heard.size = 0;
        return was;
    }

    public int expect(int reader) {
        if (!theRoom.hasReader(reader)) {
            return UNKNOWN;
        }
        int may = 0;
        for (int e = 0; e <= MOST_EXPECTED; e++) {
            if (heard.agrees(theRoom, reader, e)) {
                may |= 1 << e;
            }
        }
        return may;
    }

    public int gone(int reader, int n, int row, int said) {
        if (!theRoom.hasReader(reader)) {
            return UNKNOWN;
        }
        if (n < 1 || n > MOST_GONE || !hasFigures(row, n) || said < 0 || said >= 1 << n) {
            return OUTSIDE;
        }
        for (int i = 0; i < n; i++) {
            if (!theRoom.hasSample(figure(row, i) - 1)) {
                return STATE;
            }
        }
        int may = 0;
        for (int from = 0; from <= n; from++) {
            if (saidIfGoneFrom(from, reader, n, row) == said) {
                may |= 1 << from;
            }
        }
        return may;
    }

    // ---- shares, rests, chances

    public int share(int reader, boolean upper) {
        if (!theRoom.hasReader(reader)) {
            return UNKNOWN;
        }
        for (int s = 0; s < theRoom.samples; s++) {
            bitsOf[s] = sayingRight(s);
        }
        int own = 1 << reader;
        int sum = 0;
        for (int set = 0; set <= theRoom.allReaders(); set++) {
            if ((set & own) == 0) {
                sum += ordersBehind(set) * (rightByMost(set | own) - rightByMost(set));
            }
        }
        return fraction(sum, factorial(theRoom.readers), upper);
    }

    public int rests(int one, int other, int sample, int what) {
        if (!theRoom.hasBoth(one, sample) || !theRoom.hasReader(other)) {
            return UNKNOWN;
        }
        if (one == other || what < 0 || what > 1) {
            return OUTSIDE;
        }
        boolean oneRight = (sayingRight(sample) >> one & 1) == 1;
        boolean otherRight = (sayingRight(sample) >> other & 1) == 1;
        int pairs = 0;
        int first = NONE;
        for (int a = 0; a <= 1; a++) {
            for (int b = 0; b <= 1; b++) {
                if (isContent(a, b, oneRight, otherRight) && isContent(b, a, otherRight, oneRight)) {
                    first = pairs == 0 ? 10 * a + b : first;
                    pairs++;
                }
            }
        }
        return what == 0 ? pairs : first;
    }

    public int flicker(int sample, int m, int x, boolean upper) {
        if (!theRoom.hasSample(sample)) {
            return UNKNOWN;
        }
        if (m < 0 || m > MOST_READERS || x < 0 || x > 10) {
            return OUTSIDE;
        }
        for (int k = 0; k < ways.length; k++) {
            ways[k] = k == 0 ? 1 : 0;
        }
        int all = 1;
        for (int r = 0; r < theRoom.readers; r++) {
            addToWays(tenthsOfYes(r, sample, x));
            all *= 10;
        }
        int sum = 0;
        for (int k = m; k < ways.length; k++) {
            sum += ways[k];
        }
        return fraction(sum, all, upper);
    }

    public long seed(long v) {
        long was = theSeed;
        theSeed = v;
        return was;
    }

    public int winters(int m) {
        if (m < 1 || m > MOST_WINTERS) {
            return OUTSIDE;
        }
        trial.copyFrom(bench);
        for (int i = 0; i < m; i++) {
            theSeed = theSeed * MULTIPLIER + INCREMENT;
            winterOnTrial((int) ((theSeed >>> 33) % 22));
        }
        return trial.rightPapers(theRoom);
    }

    // ---- slots

    public int keep(int slot) {
        if (slot < 0 || slot >= SLOTS) {
            return UNKNOWN;
        }
        slots[slot].copyFrom(bench);
        isKept[slot] = true;
        return bench.paperCount();
    }

    public int again(int slot) {
        if (slot < 0 || slot >= SLOTS) {
            return UNKNOWN;
        }
        if (!isKept[slot]) {
            return STATE;
        }
        bench.copyFrom(slots[slot]);
        acts.clear();
        return bench.paperCount();
    }

    public int count(int what) {
        switch (what) {
            case 0: return text.length;
            case 1: return theRoom.readers;
            case 2: return theRoom.samples;
            case 3: return bench.prismIn ? 1 : 0;
            case 4: return bench.toldIn ? 1 : 0;
            case 5: return bench.paperCount();
            case 6: return bench.rightPapers(theRoom);
            case 7: return acts.size;
            case 8: return heard.size;
            default: return OUTSIDE;
        }
    }

    // ---- helpers

    private int sayingYes(int sample) {
        return sayingYesIf(sample, bench.prismIn, bench.toldIn);
    }

    /** The readers (bits) that say yes of a sample, with the readings they have now. */
    private int sayingYesIf(int sample, boolean prismIn, boolean toldIn) {
        int bits = 0;
        for (int r = 0; r < theRoom.readers; r++) {
            int seen = theRoom.seen(r, sample, theRoom.expects[r], bench.readingsOf(r), prismIn, toldIn);
            if (theRoom.saysYes(r, seen)) {
                bits |= 1 << r;
            }
        }
        return bits;
    }

    private int sayingRight(int sample) {
        int yes = sayingYes(sample);
        return theRoom.isBright(sample) ? yes : theRoom.allReaders() & ~yes;
    }

    /** Whether of each bright sample some one of a set says yes, by the rows in bitsOf. */
    private boolean seesAllBright(int set) {
        for (int s = 0; s < theRoom.samples; s++) {
            if (theRoom.isBright(s) && (bitsOf[s] & set) == 0) {
                return false;
            }
        }
        return true;
    }

    /** Does one told doing on the trial bench: whether it can be and shows no ray where none is. */
    private boolean standsOnTrial(int first, int second) {
        if (first == 0 && second == 0) {
            trial.prismIn = !trial.prismIn;
            return true;
        }
        if (first == 0 && second == 1) {
            trial.toldIn = !trial.toldIn;
            return true;
        }
        if (first >= 1 && first <= MOST_READERS) {
            return theRoom.hasBoth(first - 1, second)
                && (!trial.takeReading(theRoom, first - 1, second) || theRoom.isBright(second));
        }
        if (first != MOST_READERS + 1 || !theRoom.hasReader(second) || trial.readingsOf(second) == 0) {
            return false;
        }
        trial.setReadings(second, 0);
        return true;
    }

    private void winterOnTrial(int left) {
        if (left == 20) {
            trial.prismIn = !trial.prismIn;
        } else if (left == 21) {
            trial.toldIn = !trial.toldIn;
        } else if (theRoom.hasBoth(left / 4, left % 4)) {
            trial.takeReading(theRoom, left / 4, left % 4);
        }
    }

    /** What a fresh reader says (bits) of the samples of a row, if the prism is out from a reading on. */
    private int saidIfGoneFrom(int from, int reader, int n, int row) {
        int bits = 0;
        for (int i = 0; i < n; i++) {
            int sample = figure(row, n - 1 - i) - 1;
            int seen = theRoom.seen(reader, sample, theRoom.expectsOf(reader), i, i < from, true);
            if (theRoom.saysYes(reader, seen)) {
                bits |= 1 << i;
            }
        }
        return bits;
    }

    /** Of how many samples more than half of a set are right, by the rows in bitsOf. */
    private int rightByMost(int set) {
        int samples = 0;
        for (int s = 0; s < theRoom.samples; s++) {
            if (2 * Integer.bitCount(bitsOf[s] & set) > Integer.bitCount(set)) {
                samples++;
            }
        }
        return samples;
    }

    /** In how many orders just this set has come ahead of one reader that is not in it. */
    private int ordersBehind(int set) {
        int ahead = Integer.bitCount(set);
        return factorial(ahead) * factorial(theRoom.readers - 1 - ahead);
    }

    /** Whether one of two has not more by its other choice, while the other one keeps to its own. */
    private static boolean isContent(int mine, int others, boolean right, boolean otherRight) {
        return gain(mine, others, right, otherRight) >= gain(1 - mine, others, right, otherRight);
    }

    private static int gain(int mine, int others, boolean right, boolean otherRight) {
        if (mine == 0) {
            return 0;
        }
        if (others == 0) {
            return right ? 2 : -1;
        }
        // Of one sample two say the same just when both are right or both are wrong.
        if (right == otherRight) {
            return 1;
        }
        return right ? 3 : -3;
    }

    /** In how many of ten cases a reader says yes, if the spark is 1 brighter for it in x of ten. */
    private int tenthsOfYes(int reader, int sample, int x) {
        int seen = bench.seenBy(theRoom, reader, sample);
        if (theRoom.saysYes(reader, seen)) {
            return 10;
        }
        return theRoom.saysYes(reader, seen + 1) ? x : 0;
    }

    /** One reader more in the row of ways, in which place k counts the cases of k who say yes. */
    private void addToWays(int tenths) {
        // From above, so that each place still finds the old one below it.
        for (int k = ways.length - 1; k > 0; k--) {
            ways[k] = ways[k] * (10 - tenths) + ways[k - 1] * tenths;
        }
        ways[0] = ways[0] * (10 - tenths);
    }

    private static int factorial(int n) {
        return n >= 0 && n < FACTORIALS.length ? FACTORIALS[n] : 0;
    }

    private static int fraction(int above, int below, boolean upper) {
        int divisor = commonDivisor(Math.abs(above), below);
        if (divisor == 0) {
            return 0;
        }
        return upper ? above / divisor : below / divisor;
    }

    private static int commonDivisor(int one, int other) {
        int greater = one;
        int smaller = other;
        // Two ints need fewer than 48 steps.
        for (int step = 0; step < 64 && smaller != 0; step++) {
            int left = greater % smaller;
            greater = smaller;
            smaller = left;
        }
        return greater;
    }

    private static boolean hasFigures(int row, int most) {
        return row >= 0 && most >= 0 && most < TENS.length && row < TENS[most];
    }

    /** The figure of a row that has so many figures behind it. */
    private static int figure(int row, int behind) {
        if (behind < 0 || behind >= TENS.length) {
            return 0;
        }
        return row / TENS[behind] % 10;
    }

    /** The text, letter by letter, and its first fault. */
    private static final class Text {
        final int[] letters = new int[MOST_LETTERS];
        int length;

        boolean append(int letter) {
            if (length < 0 || length >= MOST_LETTERS) {
                return false;
            }
            letters[length] = letter;
            length++;
            return true;
        }

        int letterAt(int place) {
            return place >= 0 && place < length && place < MOST_LETTERS ? letters[place] : 0;
        }

        int figureAt(int place) {
            return letterAt(place) - '0';
        }

        int firstFault() {
            if (letterAt(0) != 'E') {
                return 0;
            }
            int readers = 0;
            int samples = 0;
            int place = 1;
            while (place < length) {
                boolean isReader = letterAt(place) == 'R' && readers < MOST_READERS;
                boolean isSample = letterAt(place) == 'S' && samples < MOST_SAMPLES;
                if (!isReader && !isSample) {
                    return place;
                }
                int inside = isReader ? readerFault(place + 1) : figureFault(place + 1, '0', '9');
                if (inside != NONE) {
                    return inside;
                }
                readers += isReader ? 1 : 0;
                samples += isSample ? 1 : 0;
                place += isReader ? 4 : 2;
            }
            return NONE;
        }

        private int readerFault(int place) {
            int atExpects = figureFault(place, '0', '9');
            if (atExpects != NONE) {
                return atExpects;
            }
            int atFrom = figureFault(place + 1, '1', '9');
            return atFrom != NONE ? atFrom : figureFault(place + 2, '0', '3');
        }

        /** A letter that is still to come is missed at the text's length, which is its place. */
        private int figureFault(int place, int least, int most) {
            boolean fits = letterAt(place) >= least && letterAt(place) <= most;
            return fits ? NONE : place;
        }
    }

    /** Who reads and what there is to be read; it stays until a text is made the room. */
    private static final class Room {
        final int[] expects = new int[MOST_READERS];
        final int[] yesFrom = new int[MOST_READERS];
        final int[] kinds = new int[MOST_READERS];
        final int[] brightness = new int[MOST_SAMPLES];
        int readers;
        int samples;

        /** Of a text without a fault. */
        void make(Text text) {
            readers = 0;
            samples = 0;
            int place = 1;
            while (place < text.length) {
                if (text.letterAt(place) == 'R') {
                    addReader(text, place + 1);
                    place += 4;
                } else {
                    addSample(text.figureAt(place + 1));
                    place += 2;
                }
            }
        }

        private void addReader(Text text, int place) {
            if (readers < MOST_READERS) {
                expects[readers] = text.figureAt(place);
                yesFrom[readers] = text.figureAt(place + 1);
                kinds[readers] = text.figureAt(place + 2);
                readers++;
            }
        }

        private void addSample(int howBright) {
            if (samples < MOST_SAMPLES) {
                brightness[samples] = howBright;
                samples++;
            }
        }

        boolean hasReader(int reader) {
            return reader >= 0 && reader < readers;
        }

        boolean hasSample(int sample) {
            return sample >= 0 && sample < samples;
        }

        boolean hasBoth(int reader, int sample) {
            return hasReader(reader) && hasSample(sample);
        }

        int allReaders() {
            return (1 << readers) - 1;
        }

        boolean isBright(int sample) {
            return hasSample(sample) && brightness[sample] > 0;
        }

        int expectsOf(int reader) {
            return hasReader(reader) ? expects[reader] : 0;
        }

        /** How bright a sample is for a reader, if it expects and has read so much. */
        int seen(int reader, int sample, int expected, int readings, boolean prismIn, boolean toldIn) {
            if (!hasBoth(reader, sample)) {
                return 0;
            }
            int seen = prismIn ? brightness[sample] : 0;
            if (toldIn) {
                seen += expected;
                seen += kinds[reader] == WISHFUL && expected > 0 ? 2 : 0;
            }
            if (kinds[reader] == WEARY) {
                seen -= readings / 2;
            }
            return Math.max(0, seen);
        }

        boolean saysYes(int reader, int seen) {
            return hasReader(reader) && (kinds[reader] == WORKMAN || seen >= yesFrom[reader]);
        }
    }

    /**
     * What acts change. Papers are bits, as they are asked for (of reader r on sample s bit 4 r + s),
     * and readings four bits each: so a bench is copied for each act without a row of its own.
     */
    private static final class Bench {
        private static final int PAPERS_ON_FIRST = 0x11111;

        int yesPapers;
        int noPapers;
        int readings;
        boolean prismIn = true;
        boolean toldIn = true;

        void clear() {
            yesPapers = 0;
            noPapers = 0;
            readings = 0;
            prismIn = true;
            toldIn = true;
        }

        void copyFrom(Bench other) {
            yesPapers = other.yesPapers;
            noPapers = other.noPapers;
            readings = other.readings;
            prismIn = other.prismIn;
            toldIn = other.toldIn;
        }

        static int paper(int reader, int sample) {
            return 1 << 4 * reader + sample;
        }

        static int onSample(int papers, int sample) {
            return papers & PAPERS_ON_FIRST << sample;
        }

        /** The readers (bits) whose papers on a sample are among these. */
        static int printers(int papers, int sample) {
            int bits = 0;
            for (int r = 0; r < MOST_READERS; r++) {
                if ((papers & paper(r, sample)) != 0) {
                    bits |= 1 << r;
                }
            }
            return bits;
        }

        int allPapers() {
            return yesPapers | noPapers;
        }

        int paperCount() {
            return Integer.bitCount(allPapers());
        }

        int rightPapers(Room room) {
            int right = 0;
            for (int s = 0; s < room.samples; s++) {
                right += Integer.bitCount(onSample(room.isBright(s) ? yesPapers : noPapers, s));
            }
            return right;
        }

        int readingsOf(int reader) {
            return readings >> 4 * reader & 15;
        }

        void setReadings(int reader, int n) {
            readings = readings & ~(15 << 4 * reader) | n << 4 * reader;
        }

        int seenBy(Room room, int reader, int sample) {
            return room.seen(reader, sample, room.expectsOf(reader), readingsOf(reader), prismIn, toldIn);
        }

        /** A reader reads a sample and prints what it says: whether that is yes. */
        boolean takeReading(Room room, int reader, int sample) {
            boolean yes = room.saysYes(reader, seenBy(room, reader, sample));
            setReadings(reader, Math.min(MOST_READINGS, readingsOf(reader) + 1));
            int paper = paper(reader, sample);
            dropPaper(paper);
            yesPapers |= yes ? paper : 0;
            noPapers |= yes ? 0 : paper;
            return yes;
        }

        void dropPaper(int paper) {
            yesPapers &= ~paper;
            noPapers &= ~paper;
        }
    }

    /** The row of acts, each kept as the bench ahead of it, in a ring, for the first one is forgotten. */
    private static final class Acts {
        final Bench[] ahead = new Bench[MOST_ACTS];
        int next;
        int size;

        Acts() {
            for (int i = 0; i < MOST_ACTS; i++) {
                ahead[i] = new Bench();
            }
        }

        void clear() {
            size = 0;
        }

        void remember(Bench bench) {
            ahead[next].copyFrom(bench);
            next = next + 1 < MOST_ACTS ? next + 1 : 0;
            size = Math.min(MOST_ACTS, size + 1);
        }

        void takeBack(Bench bench) {
            if (size > 0) {
                next = next > 0 ? next - 1 : MOST_ACTS - 1;
                size--;
                bench.copyFrom(ahead[next]);
            }
        }
    }

    /** What readers without readings were heard to say, told that the prism is in. */
    private static final class Heard {
        final int[] readers = new int[MOST_HEARD];
        final int[] samples = new int[MOST_HEARD];
        final boolean[] prismIn = new boolean[MOST_HEARD];
        final boolean[] saidYes = new boolean[MOST_HEARD];
        int size;

        boolean append(int reader, int sample, boolean in, boolean yes) {
            if (size < 0 || size >= MOST_HEARD) {
                return false;
            }
            readers[size] = reader;
            samples[size] = sample;
            prismIn[size] = in;
            saidYes[size] = yes;
            size++;
            return true;
        }

        /** Whether all that was heard of a reader is so, if it expects so much. */
        boolean agrees(Room room, int reader, int expected) {
            for (int i = 0; i < size; i++) {
                // A later room may lack the sample: then nothing is known from it.
                if (readers[i] == reader && room.hasSample(samples[i])) {
                    int seen = room.seen(reader, samples[i], expected, 0, prismIn[i], true);
                    if (room.saysYes(reader, seen) != saidYes[i]) {
                        return false;
                    }
                }
            }
            return true;
        }
    }
}
