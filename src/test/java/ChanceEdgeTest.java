import java.math.BigInteger;

/** The edges of shares, rests, flickers, the seed and winters (promises 24 to 28). */
public final class ChanceEdgeTest {
    private static final int UNKNOWN = -1, OUTSIDE = -2;
    private static final String ALL = "ER010R010R010R010R010S1S0S9S0";

    public static void main(String[] args) {
        sharesOfOne();
        moreThanHalf();
        leastTerms();
        belowZero();
        sharesOfFive();
        sharesNow();
        restsByWhoIsRight();
        restsOfEachPair();
        tenthsFrom0To10();
        fromNoneToFive();
        oneBrighter();
        flickerByKindAndNow();
        theSeedIsALong();
        sixtyFourBits();
        timesFrom1To30();
        eachThatIsLeft();
        prismAndTold();
        asIfTheyWereDone();
        nothingChangesButTheSeed();
        Due.end();
    }

    private static void shareIs(NewRays x, int reader, int above, int below) {
        Due.is("share of " + reader + ", above", x.share(reader, true), above);
        Due.is("share of " + reader + ", below", x.share(reader, false), below);
    }

    /** One reader: all or nothing, told as whole numbers by 1. */
    private static void sharesOfOne() {
        shareIs(Due.room("ER010"), 0, 0, 1);
        shareIs(Due.room("ER020S1"), 0, 0, 1);
        shareIs(Due.room("ER013S0S0S0S0"), 0, 0, 1);
        shareIs(Due.room("ER010S1"), 0, 1, 1);
        shareIs(Due.room("ER010S1S0S9S0"), 0, 4, 1);
        shareIs(Due.room("ER013S1S0S9S0"), 0, 2, 1);
    }

    /** "More than half of those that have come": half is not enough. */
    private static void moreThanHalf() {
        NewRays two = Due.room("ER010R020S1");
        shareIs(two, 0, 1, 2);
        shareIs(two, 1, -1, 2);
        NewRays three = Due.room("ER010R020R010S1");
        shareIs(three, 0, 2, 3);
        shareIs(three, 1, -1, 3);
        shareIs(three, 2, 2, 3);
        // A right one gains behind nobody (6 of 24 orders) and behind one right and one wrong (2 pairs, 2 orders each).
        NewRays four = Due.room("ER010R010R020R020S1");
        shareIs(four, 0, 5, 12);
        shareIs(four, 3, -5, 12);
    }

    /** "In least terms." */
    private static void leastTerms() {
        NewRays two = Due.room("ER010R010S1S2");
        shareIs(two, 0, 1, 1);
        shareIs(two, 1, 1, 1);
        NewRays three = Due.room("ER010R010R010S1S2");
        shareIs(three, 2, 2, 3);
        NewRays four = Due.room("ER010R010R010R010S1S2");
        shareIs(four, 3, 1, 2);
        NewRays five = Due.room(ALL);
        for (int r = 0; r < 5; r++) {
            shareIs(five, r, 4, 5);
        }
    }

    /** "Told above (below 0, if they are), below (1 and more)." */
    private static void belowZero() {
        NewRays one = Due.room("ER010R020R020R020R020S1");
        shareIs(one, 0, 1, 5);
        for (int r = 1; r < 5; r++) {
            shareIs(one, r, -1, 20);
        }
        NewRays all = Due.room("ER010R020R020R020R020S1S1S1S1");
        shareIs(all, 0, 4, 5);
        shareIs(all, 4, -1, 5);
        NewRays two = Due.room("ER010R020S1S1S1S1");
        shareIs(two, 0, 2, 1);
        shareIs(two, 1, -2, 1);
        // Gained and lost alike: one is right of the one, the other of the other.
        NewRays even = Due.room("ER020R013S1S0");
        shareIs(even, 0, 0, 1);
        shareIs(even, 1, 0, 1);
    }

    /** Five readers, and the first ones that are not there. */
    private static void sharesOfFive() {
        NewRays x = Due.room("ER010R020R010R020R010S1");
        for (int r = 0; r < 5; r++) {
            if (r % 2 == 0) {
                shareIs(x, r, 8, 15);
            } else {
                shareIs(x, r, -3, 10);
            }
        }
        shareIs(x, 5, UNKNOWN, UNKNOWN);
        shareIs(x, -1, UNKNOWN, UNKNOWN);
        shareIs(Due.room("ES1"), 0, UNKNOWN, UNKNOWN);
        NewRays none = Due.room("ER020R020R020R020R020S1");
        shareIs(none, 4, 0, 1);
    }

    /** "Say now what is RIGHT." */
    private static void sharesNow() {
        NewRays x = Due.room("ER210R010S0S9");
        shareIs(x, 0, 0, 1);
        shareIs(x, 1, 1, 1);
        x.tell();
        shareIs(x, 0, 1, 1);
        shareIs(x, 1, 1, 1);
        x.prism();
        shareIs(x, 0, 1, 2);
        NewRays weary = Due.room("ER012S1");
        weary.read(0, 0);
        shareIs(weary, 0, 1, 1);
        weary.read(0, 0);
        shareIs(weary, 0, 0, 1);
    }

    private static void restsAre(NewRays x, int one, int other, int sample, int[] due) {
        String name = "rests " + one + " " + other + " " + sample;
        Due.is(name, x.rests(one, other, sample, 0), due[0]);
        Due.is(name + ", the first", x.rests(one, other, sample, 1), due[1]);
    }

    private static int[] restsDue(boolean right, boolean otherRight) {
        if (right) {
            return otherRight ? new int[] {1, 11} : new int[] {1, 10};
        }
        return otherRight ? new int[] {1, 1} : new int[] {2, 0};
    }

    /** Both right: both print; one: it alone; none: both wait, or both print the same. */
    private static void restsByWhoIsRight() {
        NewRays x = Due.room("ER010R010R013R020R020S1S0");
        boolean[][] right = {{true, true}, {true, true}, {true, false}, {false, true}, {false, true}};
        for (int one = 0; one < 5; one++) {
            for (int other = 0; other < 5; other++) {
                for (int s = 0; s < 2 && one != other; s++) {
                    restsAre(x, one, other, s, restsDue(right[one][s], right[other][s]));
                }
            }
        }
        restsAre(x, 3, 4, 0, new int[] {2, 0});
        restsAre(x, 0, 1, 0, new int[] {1, 11});
        restsAre(x, 0, 3, 0, new int[] {1, 10});
        restsAre(x, 3, 0, 0, new int[] {1, 1});
        restsAre(x, 0, 2, 1, new int[] {1, 10});
        x.prism();
        restsAre(x, 0, 1, 0, new int[] {2, 0});
        restsAre(x, 0, 2, 0, new int[] {1, 1});
    }

    /** "UNKNOWN: all three; OUTSIDE: both READERS are one, what." */
    private static void restsOfEachPair() {
        NewRays x = Due.room(ALL);
        for (int one = -1; one <= 5; one++) {
            for (int other = -1; other <= 5; other++) {
                boolean there = one >= 0 && one < 5 && other >= 0 && other < 5;
                int due = !there ? UNKNOWN : one == other ? OUTSIDE : 1;
                Due.is("rests " + one + " " + other, x.rests(one, other, 3, 0), due);
            }
        }
        for (int s = -1; s <= 4; s++) {
            Due.is("rests on " + s, x.rests(0, 4, s, 1), s < 0 || s > 3 ? UNKNOWN : 11);
        }
        for (int what = -1; what <= 2; what++) {
            Due.is("rests, what " + what, x.rests(4, 0, 3, what), what == 0 ? 1 : what == 1 ? 11 : OUTSIDE);
        }
    }

    private static void flickers(NewRays x, int m, int tenths, int above, int below) {
        Due.is("flicker " + m + " " + tenths + ", above", x.flicker(0, m, tenths, true), above);
        Due.is("flicker " + m + " " + tenths + ", below", x.flicker(0, m, tenths, false), below);
    }

    /** "By x tenths (0 to 10)", in least terms. */
    private static void tenthsFrom0To10() {
        int[][] due = {{0, 1}, {1, 10}, {1, 5}, {3, 10}, {2, 5}, {1, 2}, {3, 5}, {7, 10}, {4, 5}, {9, 10}, {1, 1}};
        NewRays x = Due.room("ER010S0");
        for (int tenths = 0; tenths <= 10; tenths++) {
            flickers(x, 1, tenths, due[tenths][0], due[tenths][1]);
            flickers(x, 0, tenths, 1, 1);
            flickers(x, 2, tenths, 0, 1);
        }
        for (int off : new int[] {Integer.MIN_VALUE, -1, 11, Integer.MAX_VALUE}) {
            flickers(x, 1, off, OUTSIDE, OUTSIDE);
        }
    }

    /** "That m READERS (0 to 5) or more say YES." */
    private static void fromNoneToFive() {
        NewRays five = Due.room("ER010R010R010R010R010S0");
        int[][] half = {{1, 1}, {31, 32}, {13, 16}, {1, 2}, {3, 16}, {1, 32}};
        for (int m = 0; m <= 5; m++) {
            flickers(five, m, 5, half[m][0], half[m][1]);
            flickers(five, m, 10, 1, 1);
            flickers(five, m, 0, m == 0 ? 1 : 0, 1);
        }
        flickers(five, 5, 1, 1, 100000);
        flickers(five, 1, 1, 40951, 100000);
        flickers(five, 5, 9, 59049, 100000);
        for (int off : new int[] {Integer.MIN_VALUE, -1, 6, Integer.MAX_VALUE}) {
            flickers(five, off, 5, OUTSIDE, OUTSIDE);
        }
        NewRays nobody = Due.room("ES9");
        for (int m = 0; m <= 5; m++) {
            flickers(nobody, m, 7, m == 0 ? 1 : 0, 1);
        }
        Due.is("sample 1 of one", five.flicker(1, 0, 0, true), UNKNOWN);
        Due.is("sample -1", five.flicker(-1, 0, 0, false), UNKNOWN);
        NewRays four = Due.room("ER010S1S1S1S0");
        Due.is("sample 3 of four", four.flicker(3, 1, 3, true), 3);
        Due.is("sample 4 of four", four.flicker(4, 1, 3, true), UNKNOWN);
    }

    /** "The spark is 1 brighter": enough for one that lacks 1, not for one that lacks 2. */
    private static void oneBrighter() {
        for (int t = 1; t <= 9; t++) {
            for (int a = 0; a <= 9; a++) {
                NewRays x = Due.room("ER0" + t + "0S" + a);
                int above = a >= t ? 1 : a + 1 == t ? 3 : 0;
                flickers(x, 1, 3, above, above == 3 ? 10 : 1);
            }
        }
        // One that says yes anyway, one that lacks 1, one that lacks 2.
        NewRays x = Due.room("ER030R040R050S3");
        flickers(x, 1, 10, 1, 1);
        flickers(x, 2, 7, 7, 10);
        flickers(x, 2, 10, 1, 1);
        flickers(x, 3, 10, 0, 1);
    }

    /** A workman says yes by itself; the prism, what is told and readings are as now. */
    private static void flickerByKindAndNow() {
        flickers(Due.room("ER093S0"), 1, 0, 1, 1);
        flickers(Due.room("ER093R093R093R093R093S0"), 5, 0, 1, 1);
        NewRays x = Due.room("ER250S3");
        flickers(x, 1, 2, 1, 1);
        x.tell();
        flickers(x, 1, 10, 0, 1);
        x.tell();
        x.prism();
        flickers(x, 1, 10, 0, 1);
        NewRays near = Due.room("ER450S9");
        near.prism();
        flickers(near, 1, 2, 1, 5);
        NewRays wishful = Due.room("ER151S1S0");
        flickers(wishful, 1, 6, 3, 5);
        NewRays weary = Due.room("ER042S4");
        weary.read(0, 0);
        flickers(weary, 1, 4, 1, 1);
        weary.read(0, 0);
        flickers(weary, 1, 4, 2, 5);
        weary.read(0, 0);
        weary.read(0, 0);
        flickers(weary, 1, 10, 0, 1);
        // More weary than it sees: the 1 comes on the "0 at least" that is left (NOTES.md).
        NewRays worn = Due.room("ER012R022S1");
        for (int i = 0; i < 9; i++) {
            worn.read(0, 0);
            worn.read(1, 0);
        }
        flickers(worn, 1, 3, 3, 10);
        flickers(worn, 2, 10, 0, 1);
    }

    /** "THE SEED is v: what it was"; "(a long; 0 at first)". */
    private static void theSeedIsALong() {
        NewRays x = new NewRays();
        long was = 0;
        for (long v : new long[] {Long.MAX_VALUE, Long.MIN_VALUE, -1, 1, 1L << 32, -1L << 32, 0, 0}) {
            Due.is("seed " + v, x.seed(v), was);
            was = v;
        }
    }

    /** The document's step, by numbers that do not wrap and what is left of them by 64 bits. */
    static long next(long seed) {
        BigInteger all = BigInteger.valueOf(seed).multiply(new BigInteger("6364136223846793005"));
        return all.add(new BigInteger("1442695040888963407")).longValue();
    }

    /** What is left of the upper 31 bits by 22. */
    static int left(long x) {
        BigInteger plain = new BigInteger(Long.toUnsignedString(x));
        return plain.shiftRight(33).mod(BigInteger.valueOf(22)).intValue();
    }

    /** "X times 6364136223846793005 and 1442695040888963407 (64 bits, wrapping)." */
    private static void sixtyFourBits() {
        NewRays x = new NewRays();
        for (long v : new long[] {0, 1, -1, 2, 5, Long.MAX_VALUE, Long.MIN_VALUE, 1L << 62, 0x123456789abcdefL}) {
            x.seed(v);
            x.winters(1);
            Due.is("behind " + v, x.seed(0), next(v));
        }
        x.winters(1);
        Due.is("behind 0", x.seed(0), 1442695040888963407L);
        x.winters(1);
        x.winters(1);
        Due.is("two steps", x.seed(0), next(1442695040888963407L));
    }

    /** "M times (1 to 30)": as many steps of the seed. */
    private static void timesFrom1To30() {
        NewRays x = Due.room(ALL);
        for (int m = 1; m <= 30; m++) {
            x.seed(m);
            long due = m;
            for (int i = 0; i < m; i++) {
                due = next(due);
            }
            x.winters(m);
            Due.is(m + " steps", x.seed(0), due);
        }
        for (int m : new int[] {Integer.MIN_VALUE, -1, 0, 31, Integer.MAX_VALUE}) {
            x.seed(9);
            Due.is("winters " + m, x.winters(m), OUTSIDE);
            Due.is("the seed stays", x.seed(0), 9);
        }
    }

    /** A seed ahead of which this is left by one step, the upper bit of it set or not. */
    private static long seedFor(int left, boolean upperBit) {
        for (long v = 0; v < 100000; v++) {
            long x = next(v);
            if (left(x) == left && x < 0 == upperBit) {
                return v;
            }
        }
        Due.holds("a seed for " + left, false);
        return 0;
    }

    /** "0 to 19: that by 4 (down) is a READER that READS the SAMPLE that is left by 4, if there are such ones." */
    private static void eachThatIsLeft() {
        for (int left = 0; left < 22; left++) {
            for (int upper = 0; upper < 2; upper++) {
                long v = seedFor(left, upper == 1);
                for (int readers = 0; readers <= 5; readers++) {
                    for (int samples = 0; samples <= 4; samples++) {
                        NewRays x = Due.room("E" + "R010".repeat(readers) + "S1".repeat(samples));
                        x.seed(v);
                        boolean there = left < 20 && left / 4 < readers && left % 4 < samples;
                        Due.is(left + " in " + readers + samples, x.winters(1), there ? 1 : 0);
                    }
                }
            }
        }
    }

    /** "20 PRISM, 21 TOLD": seen by the reading behind it. */
    private static void prismAndTold() {
        int[] met = new int[22];
        for (long v = 0; v < 20000; v++) {
            int first = left(next(v));
            if (left(next(next(v))) != 0 || met[first]++ > 0) {
                continue;
            }
            NewRays faint = Due.room("ER010S1");
            faint.seed(v);
            Due.is(first + " ahead of a bright one", faint.winters(2), first == 20 ? 0 : 1);
            NewRays hoped = Due.room("ER110S0");
            hoped.seed(v);
            Due.is(first + " ahead of a dark one", hoped.winters(2), first == 21 ? 1 : 0);
        }
        for (int first = 0; first < 22; first++) {
            Due.holds("met " + first, met[first] > 0);
        }
    }

    /** An object with readings at 9, papers, the prism out. */
    private static NewRays begun() {
        NewRays x = Due.room("ER341R652R250R193R462S5S0S9S0");
        for (int i = 0; i < 10; i++) {
            x.read(4, 2);
            x.read(1, i % 4);
        }
        x.read(2, 1);
        x.prism();
        return x;
    }

    /** What winters do on a copy is what the same acts do. */
    private static void asIfTheyWereDone() {
        for (int m = 1; m <= 30; m++) {
            for (long v = -m; v <= 40L * m; v += 7L * m) {
                NewRays x = begun();
                NewRays y = begun();
                x.seed(v);
                long step = v;
                for (int i = 0; i < m; i++) {
                    step = next(step);
                    int left = left(step);
                    if (left == 20) {
                        y.prism();
                    } else if (left == 21) {
                        y.tell();
                    } else {
                        y.read(left / 4, left % 4);
                    }
                }
                Due.is(m + " winters by " + v, x.winters(m), y.count(6));
            }
        }
    }

    /** "(Nothing changes but THE SEED.)" */
    private static void nothingChangesButTheSeed() {
        NewRays x = begun();
        x.hear(0, 0, 1, 1);
        x.keep(1);
        x.winters(30);
        x.winters(30);
        x.seed(0);
        NewRays y = begun();
        y.hear(0, 0, 1, 1);
        y.keep(1);
        Due.holds("as if no winter was", RefusalTest.look(x).equals(RefusalTest.look(y)));
    }
}
