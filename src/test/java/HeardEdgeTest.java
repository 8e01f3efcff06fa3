/** The edges of what is heard, of what one may expect by it, and of when the prism was gone (promises 20 to 23). */
public final class HeardEdgeTest {
    private static final int UNKNOWN = -1, OUTSIDE = -2, STATE = -3, FULL = -4;
    private static final int ALL = 1023;
    private static final String FIVE = "ER341R652R250R193R452S5S0S3S0";

    public static void main(String[] args) {
        sixAtMost();
        yesOrNoInOrOut();
        howMuchThereWas();
        ofReadersAndSamplesThereAre();
        bits0To9();
        expectByKind();
        asWithoutReadings();
        allThatIsHeard();
        notAnyMore();
        samplesFrom1To6();
        rowsOfSamples();
        bitsOfN();
        samplesThereAreNot();
        fromEachReadingOn();
        theFirstOneIsBit0();
        goneOfAWearyOne();
        toldAllTheTime();
        Due.end();
    }

    /** "6 such at most, none at first"; "FULL: 6". */
    private static void sixAtMost() {
        NewRays x = Due.room(FIVE);
        Due.is("none at first", x.count(8), 0);
        for (int i = 1; i <= 6; i++) {
            Due.is("hear " + i, x.hear(i % 5, i % 4, i % 2, 1), i);
            Due.is("heard", x.count(8), i);
        }
        Due.is("hear 7", x.hear(0, 0, 0, 0), FULL);
        Due.is("hear 7 again", x.hear(1, 1, 1, 1), FULL);
        Due.is("still 6", x.count(8), 6);
        Due.is("unhear", x.unhear(), 6);
        Due.is("from the start", x.hear(0, 0, 0, 0), 1);
    }

    /** "OUTSIDE: prism (0, 1), yes (0, 1)." */
    private static void yesOrNoInOrOut() {
        NewRays x = Due.room(FIVE);
        for (int i = 0; i < 4; i++) {
            Due.is("prism " + i / 2 + ", yes " + i % 2, x.hear(0, 0, i / 2, i % 2), i + 1);
        }
        for (int off : new int[] {Integer.MIN_VALUE, -1, 2, Integer.MAX_VALUE}) {
            Due.is("prism " + off, x.hear(0, 0, off, 1), OUTSIDE);
            Due.is("yes " + off, x.hear(0, 0, 1, off), OUTSIDE);
        }
        Due.is("four", x.count(8), 4);
    }

    /** "Nothing is HEARD: how much there was." */
    private static void howMuchThereWas() {
        NewRays x = Due.room("ER050S0");
        for (int many = 0; many <= 6; many++) {
            for (int i = 0; i < many; i++) {
                x.hear(0, 0, 1, 1);
            }
            Due.is("expects by " + many, x.expect(0), many == 0 ? ALL : 992);
            Due.is("unhear " + many, x.unhear(), many);
            Due.is("nothing is heard", x.count(8), 0);
            Due.is("it may expect all", x.expect(0), ALL);
        }
        Due.is("unhear nothing", x.unhear(), 0);
    }

    /** "UNKNOWN: both." */
    private static void ofReadersAndSamplesThereAre() {
        NewRays x = Due.room(FIVE);
        Due.is("the last of both", x.hear(4, 3, 0, 0), 1);
        Due.is("the first of both", x.hear(0, 0, 0, 0), 2);
        Due.is("reader 5", x.hear(5, 0, 0, 0), UNKNOWN);
        Due.is("reader -1", x.hear(-1, 0, 0, 0), UNKNOWN);
        Due.is("sample 4", x.hear(0, 4, 0, 0), UNKNOWN);
        Due.is("sample -1", x.hear(0, -1, 0, 0), UNKNOWN);
        Due.is("two", x.count(8), 2);
        Due.is("expect 4", x.expect(4), 31);
        Due.is("expect 5", x.expect(5), UNKNOWN);
        Due.is("expect -1", x.expect(-1), UNKNOWN);
        Due.is("nobody there", Due.room("ES0").hear(0, 0, 0, 0), UNKNOWN);
        Due.is("nothing there", Due.room("ER010").hear(0, 0, 0, 0), UNKNOWN);
    }

    private static void expects(String text, int prism, int yes, int due) {
        NewRays x = Due.room(text);
        x.hear(0, 0, prism, yes);
        Due.is("expect in " + text + " by " + prism + " " + yes, x.expect(0), due);
    }

    /** "What it may EXPECT (bits 0 to 9)", whatever it does expect. */
    private static void bits0To9() {
        expects("ER090S0", 1, 1, 512);
        expects("ER990S0", 1, 0, 511);
        expects("ER010S0", 1, 0, 1);
        expects("ER910S0", 1, 1, ALL - 1);
        expects("ER010S1", 1, 1, ALL);
        expects("ER010S1", 1, 0, 0);
        expects("ER050S9", 0, 1, 992);
        expects("ER050S9", 0, 0, 31);
        expects("ER050S9", 1, 0, 0);
        expects("ER050S4", 1, 1, ALL - 1);
        expects("ER050S4", 1, 0, 1);
        expects("ER050S5", 1, 1, ALL);
        expects("ER090S9", 1, 1, ALL);
        expects("ER090S8", 1, 0, 1);
    }

    /** By kind: wishful ones, weary ones, workmen. */
    private static void expectByKind() {
        expects("ER091S0", 1, 1, 896);
        expects("ER091S0", 1, 0, 127);
        expects("ER011S0", 1, 0, 1);
        expects("ER031S0", 1, 0, 1);
        expects("ER041S0", 1, 0, 3);
        expects("ER041S0", 1, 1, ALL - 3);
        expects("ER041S9", 0, 1, ALL - 3);
        expects("ER092S0", 1, 1, 512);
        expects("ER092S1", 1, 1, 768);
        expects("ER093S0", 0, 1, ALL);
        expects("ER013S9", 1, 0, 0);
    }

    /** "That a READER without READINGS said .., TOLD that it is IN": whatever it has, and is told, now. */
    private static void asWithoutReadings() {
        NewRays x = Due.room("ER052S3");
        x.hear(0, 0, 1, 1);
        x.hear(0, 0, 0, 0);
        Due.is("fresh", x.expect(0), 4 + 8 + 16);
        for (int i = 0; i < 10; i++) {
            x.read(0, 0);
        }
        x.prism();
        x.tell();
        Due.is("weary, out, told out", x.expect(0), 4 + 8 + 16);
    }

    /** "So that all that is HEARD of it is so": the first one as well as the sixth. */
    private static void allThatIsHeard() {
        for (int place = 0; place < 6; place++) {
            NewRays x = Due.room("ER050R050R050R050R050S0S5S9S9");
            for (int i = 0; i < 6; i++) {
                if (i == place) {
                    x.hear(4, 0, 1, 1);
                } else {
                    x.hear(4, 3, 1, 1);
                }
            }
            Due.is("by the one at " + place, x.expect(4), 992);
            Due.is("of another nothing is heard", x.expect(3), ALL);
        }
        NewRays x = Due.room("ER050S0S1S2S3");
        for (int s = 3; s >= 0; s--) {
            x.hear(0, s, 1, 0);
        }
        Due.is("no of all", x.expect(0), 3);
        x.hear(0, 0, 0, 0);
        x.hear(0, 3, 1, 1);
        Due.is("and a yes against it", x.expect(0), 0);
        Due.is("all six", x.count(8), 6);
        for (int s = 0; s < 4; s++) {
            x.unhear();
            x.hear(0, s, 1, 1);
            Due.is("yes of " + s, x.expect(0), ALL & ~((1 << 5 - s) - 1));
            x.hear(0, 3, 0, 1);
            Due.is("yes of " + s + " and of none", x.expect(0), 992);
        }
    }

    /** "(Of READERS, SAMPLES that there are not any more nothing is looked at.)" */
    private static void notAnyMore() {
        NewRays x = Due.room("ER050R050S0S0");
        x.hear(0, 0, 1, 1);
        x.hear(0, 1, 1, 0);
        x.hear(1, 1, 1, 0);
        Due.is("against itself", x.expect(0), 0);
        Due.write(x, "ER050S0");
        x.room();
        Due.is("the last sample is gone", x.expect(0), 992);
        Due.is("the last reader is gone", x.expect(1), UNKNOWN);
        Due.is("heard as before", x.count(8), 3);
        Due.write(x, "ER050R050");
        x.room();
        Due.is("no samples", x.expect(0), ALL);
        Due.is("no samples", x.expect(1), ALL);
        Due.write(x, "ES0S0");
        x.room();
        Due.is("no readers", x.expect(0), UNKNOWN);
        Due.is("still heard", x.count(8), 3);
        Due.write(x, "ER030R020S1S0");
        x.room();
        Due.is("both are there again, as they are now", x.expect(0), 4);
        Due.is("both are there again, as they are now", x.expect(1), 3);
        Due.is("unhear", x.unhear(), 3);
    }

    private static void gone(NewRays x, int n, int row, int said, int due) {
        Due.is("gone " + n + " " + row + " " + said, x.gone(0, n, row, said), due);
    }

    /** "Reads n SAMPLES (1 to 6)": (bits 0 to n). */
    private static void samplesFrom1To6() {
        NewRays yes = Due.room("ER093S0");
        NewRays no = Due.room("ER090S8");
        int[] ones = {0, 1, 11, 111, 1111, 11111, 111111};
        for (int n = 1; n <= 6; n++) {
            gone(yes, n, ones[n], (1 << n) - 1, (1 << n + 1) - 1);
            gone(no, n, ones[n], 0, (1 << n + 1) - 1);
            gone(yes, n, ones[n], 0, 0);
            gone(no, n, ones[n], (1 << n) - 1, 0);
        }
        for (int n : new int[] {Integer.MIN_VALUE, -1, 0, 7, 32, 33, Integer.MAX_VALUE}) {
            gone(yes, n, 1, 0, OUTSIDE);
            gone(yes, n, 0, 0, OUTSIDE);
        }
    }

    /** "Row (0 or more, n figures at most)." */
    private static void rowsOfSamples() {
        NewRays x = Due.room("ER093S0S0S0S0");
        int[] most = {0, 9, 99, 999, 9999, 99999, 999999};
        int[] fours = {0, 4, 44, 444, 4444, 44444, 444444};
        for (int n = 1; n <= 6; n++) {
            gone(x, n, fours[n], (1 << n) - 1, (1 << n + 1) - 1);
            gone(x, n, most[n], 0, STATE);
            gone(x, n, most[n] + 1, 0, OUTSIDE);
            gone(x, n, 0, 0, STATE);
            gone(x, n, -1, 0, OUTSIDE);
            gone(x, n, Integer.MIN_VALUE, 0, OUTSIDE);
            gone(x, n, Integer.MAX_VALUE, 0, OUTSIDE);
        }
    }

    /** "Said (bits of n)." */
    private static void bitsOfN() {
        NewRays x = Due.room("ER010S9");
        int[] ones = {0, 1, 11, 111, 1111, 11111, 111111};
        for (int n = 1; n <= 6; n++) {
            gone(x, n, ones[n], 0, 1);
            gone(x, n, ones[n], (1 << n) - 1, 1 << n);
            gone(x, n, ones[n], 1 << n, OUTSIDE);
            gone(x, n, ones[n], -1, OUTSIDE);
            gone(x, n, ones[n], Integer.MIN_VALUE, OUTSIDE);
            gone(x, n, ones[n], Integer.MAX_VALUE, OUTSIDE);
        }
    }

    /** "STATE: the row names a SAMPLE that there is not": also a 0, and a figure that is missing ahead. */
    private static void samplesThereAreNot() {
        for (int samples = 0; samples <= 4; samples++) {
            NewRays x = Due.room("ER093" + "S0".repeat(samples));
            for (int figure = 0; figure <= 9; figure++) {
                boolean there = figure >= 1 && figure <= samples;
                gone(x, 1, figure, 1, there ? 3 : STATE);
                if (samples > 0) {
                    gone(x, 2, 10 + figure, 3, there ? 7 : STATE);
                    gone(x, 2, 10 * figure + 1, 3, there ? 7 : STATE);
                    gone(x, 3, 101 + 10 * figure, 7, there ? 15 : STATE);
                }
            }
        }
    }

    /** "READINGS from which it may have been out (n: it was IN for all of them)." */
    private static void fromEachReadingOn() {
        NewRays x = Due.room("ER010S9S0");
        int[] ones = {0, 1, 11, 111, 1111, 11111, 111111};
        for (int n = 1; n <= 6; n++) {
            for (int from = 0; from <= n; from++) {
                gone(x, n, ones[n], (1 << from) - 1, 1 << from);
            }
            for (int said = 0; said < 1 << n; said++) {
                boolean falls = (said & said + 1) == 0;
                gone(x, n, ones[n], said, falls ? 1 << Integer.bitCount(said) : 0);
            }
        }
        gone(x, 6, 222222, 0, 127);
        gone(x, 6, 122222, 1, 126);
        gone(x, 6, 222221, 0, 63);
        gone(x, 6, 222221, 32, 64);
    }

    /** "What told bits say (the first one: bit 0)", one sample after the other. */
    private static void theFirstOneIsBit0() {
        NewRays x = Due.room("ER010S9S0");
        gone(x, 2, 12, 1, 6);
        gone(x, 2, 12, 2, 0);
        gone(x, 2, 12, 0, 1);
        gone(x, 2, 21, 2, 4);
        gone(x, 2, 21, 1, 0);
        gone(x, 2, 21, 0, 3);
        gone(x, 3, 121, 5, 8);
        gone(x, 3, 121, 1, 6);
        gone(x, 3, 121, 4, 0);
    }

    /** "A READER without READINGS reads n SAMPLES one after the other": a weary one tires by these alone. */
    private static void goneOfAWearyOne() {
        NewRays x = Due.room("ER092S9");
        for (int again = 0; again < 2; again++) {
            gone(x, 6, 111111, 3, 124);
            gone(x, 6, 111111, 1, 2);
            gone(x, 6, 111111, 0, 1);
            gone(x, 6, 111111, 7, 0);
            gone(x, 2, 11, 3, 4);
            gone(x, 3, 111, 3, 12);
            for (int i = 0; i < 10; i++) {
                x.read(0, 0);
            }
        }
        // In: 9, 9, 8, 8, 7, 7; out: 5, 5, 4, 4, 3, 3.
        NewRays y = Due.room("ER552S4");
        gone(y, 3, 111, 7, 8);
        gone(y, 3, 111, 3, 7);
        gone(y, 2, 11, 3, 7);
        gone(y, 6, 111111, 63, 64);
        gone(y, 6, 111111, 31, 32);
        gone(y, 6, 111111, 3, 7);
    }

    /** "It is TOLD all the time that the PRISM is IN; IN it was at first", whatever it is now. */
    private static void toldAllTheTime() {
        NewRays x = Due.room("ER330R341S1");
        x.tell();
        x.prism();
        Due.is("expects enough", x.gone(0, 2, 11, 3), 7);
        Due.is("wishful", x.gone(1, 2, 11, 3), 7);
        Due.is("it can not say no", x.gone(0, 2, 11, 1), 0);
        NewRays y = Due.room("ER250R251R350S3S2");
        y.tell();
        y.prism();
        Due.is("by both", y.gone(0, 2, 11, 1), 2);
        Due.is("by one more bright", y.gone(0, 2, 12, 1), 6);
        Due.is("wishful, by 1 more", y.gone(1, 2, 22, 3), 4);
        Due.is("the third", y.gone(2, 2, 22, 3), 4);
        Due.is("reader 3", y.gone(3, 2, 22, 3), UNKNOWN);
        Due.is("reader -1", y.gone(-1, 2, 22, 3), UNKNOWN);
        Due.is("no acts but two", y.count(7), 2);
        Due.is("no papers", y.count(5) + y.reader(0, 3), 0);
    }
}
