/** The edges of who is fooled, who sees truly, covers, wrong papers and doings judged (promises 15 to 19). */
public final class AskEdgeTest {
    private static final int UNKNOWN = -1, OUTSIDE = -2, NONE = -9;
    private static final String FIVE = "ER341R652R250R193R452S5S0S3S0";

    public static void main(String[] args) {
        fooledFromWhatItExpects();
        fooledWithTheReadingsOfNow();
        fooledByEachSample();
        trulyFromHowBright();
        trulyByKind();
        trulyByEachSample();
        coverOfNothing();
        coverByNone();
        theLeastOfLikeOnes();
        coverAsThingsAreNow();
        wrongOfFewPapers();
        asManyYesAsNo();
        wrongOfTwentyPapers();
        doingsFrom1To4();
        rowsOfDoings();
        figuresWithoutAMeaning();
        readingsThatCanNotBe();
        restsThatCanNotBe();
        yesOfWhatIsNotBright();
        placesOfTheFirst();
        judgedChangesNothing();
        Due.end();
    }

    /** "READERS that would say YES now, if the PRISM was out, and it was TOLD that it is IN." */
    private static void fooledFromWhatItExpects() {
        for (int t = 1; t <= 9; t++) {
            for (int e = 0; e <= 9; e++) {
                NewRays x = Due.room("ER" + e + t + "0R" + e + t + "1R" + e + t + "2R" + e + t + "3S9");
                int plain = e >= t ? 1 + 4 : 0;
                int wishful = e > 0 && e + 2 >= t ? 2 : 0;
                Due.is("fooled, expecting " + e + " from " + t, x.fooled(0), plain + wishful + 8);
            }
        }
        Due.is("nobody there", Due.room("ES9").fooled(0), 0);
        Due.is("all five", Due.room("ER110R220R990R971R093S0").fooled(0), 31);
        Due.is("none of five", Due.room("ER010R120R890R691R012S9").fooled(0), 0);
    }

    /** "Now": by the readings of now, whatever the prism is and is told. */
    private static void fooledWithTheReadingsOfNow() {
        NewRays x = Due.room("ER552R642S9");
        x.read(0, 0);
        Due.is("1 reading", x.fooled(0), 3);
        x.read(0, 0);
        Due.is("2 readings", x.fooled(0), 2);
        for (int i = 0; i < 5; i++) {
            x.read(1, 0);
        }
        Due.is("5 readings of the other", x.fooled(0), 2);
        x.read(1, 0);
        Due.is("6 readings of the other", x.fooled(0), 0);
        x.rest(0);
        Due.is("one has rested", x.fooled(0), 1);
        x.tell();
        x.prism();
        Due.is("whatever is told", x.fooled(0), 1);
        Due.is("prism and told stay", x.count(3) + x.count(4), 0);
    }

    /** "UNKNOWN." */
    private static void fooledByEachSample() {
        NewRays x = Due.room(FIVE);
        for (int s = 0; s < 4; s++) {
            Due.is("fooled " + s, x.fooled(s), 11);
        }
        Due.is("fooled -1", x.fooled(-1), UNKNOWN);
        Due.is("fooled 4", x.fooled(4), UNKNOWN);
        NewRays one = Due.room("ER110S0");
        Due.is("fooled 0 of one", one.fooled(0), 1);
        Due.is("fooled 1 of one", one.fooled(1), UNKNOWN);
    }

    /** "Would say YES, if the PRISM was IN, and NO, if it was out, both TOLD that it is out." */
    private static void trulyFromHowBright() {
        for (int t = 1; t <= 9; t++) {
            for (int a = 0; a <= 9; a++) {
                NewRays x = Due.room("ER0" + t + "0R9" + t + "0R9" + t + "1R9" + t + "2R9" + t + "3S" + a);
                Due.is("truly, " + a + " from " + t, x.truly(0), a >= t ? 15 : 0);
            }
        }
        Due.is("nobody there", Due.room("ES9").truly(0), 0);
        Due.is("all five", Due.room("ER010R110R190R911R992S9").truly(0), 31);
    }

    /** A workman says yes both times; a weary one by its readings of now. */
    private static void trulyByKind() {
        NewRays x = Due.room("ER013R012R092S9");
        Due.is("no workman", x.truly(0), 6);
        x.read(2, 0);
        Due.is("1 reading", x.truly(0), 6);
        x.read(2, 0);
        Due.is("2 readings", x.truly(0), 2);
        for (int i = 0; i < 12; i++) {
            x.read(1, 0);
        }
        Due.is("9 readings, 5 of 9 are left", x.truly(0), 2);
        NewRays faint = Due.room("ER012S4");
        for (int i = 0; i < 7; i++) {
            faint.read(0, 0);
        }
        Due.is("7 readings", faint.truly(0), 1);
        faint.read(0, 0);
        Due.is("8 readings", faint.truly(0), 0);
        faint.prism();
        faint.tell();
        faint.rest(0);
        Due.is("rested, whatever is told", faint.truly(0), 1);
        Due.is("prism and told stay", faint.count(3) + faint.count(4), 0);
    }

    /** "UNKNOWN." */
    private static void trulyByEachSample() {
        NewRays x = Due.room("ER010R030S0S1S2S3");
        int[] due = {0, 1, 1, 3};
        for (int s = 0; s < 4; s++) {
            Due.is("truly " + s, x.truly(s), due[s]);
        }
        Due.is("truly -1", x.truly(-1), UNKNOWN);
        Due.is("truly 4", x.truly(4), UNKNOWN);
    }

    private static void coverIs(String text, int due) {
        Due.is("cover of " + text, Due.room(text).cover(), due);
    }

    /** Where no sample is bright nobody is needed. */
    private static void coverOfNothing() {
        Due.is("cover of a new object", new NewRays().cover(), 0);
        coverIs("E", 0);
        coverIs("ES0S0S0S0", 0);
        coverIs("ER010", 0);
        coverIs("ER013S0", 0);
        coverIs("ER990R013S0S0", 0);
    }

    /** "NONE." */
    private static void coverByNone() {
        coverIs("ES1", NONE);
        coverIs("ER020S1", NONE);
        coverIs("ER010S1", 1);
        coverIs("ER013S1S0", NONE);
        coverIs("ER013S1", 1);
        coverIs("ER110S1S0", NONE);
        coverIs("ER120S1S0", 1);
        coverIs("ER120S1S0S9S0", 1);
        coverIs("ER030R020R040R050R060S1S9", NONE);
        coverIs("ER010R020R040R050R060S1S9", 1);
    }

    /** "The fewest READERS (bits; of like ones the least)." */
    private static void theLeastOfLikeOnes() {
        coverIs("ER010R010R010R010R010S1S2S3S0", 1);
        coverIs("ER090R010R010R010R010S1S2S3S0", 2);
        coverIs("ER090R013R010R013R010S1S2S3S0", 4);
        coverIs("ER090R013R110R013R010S1S2S3S0", 16);
        coverIs("ER090R050R030R020R010S9S5S3S1", 16);
        coverIs("ER090R050R030R020R010S9S5S3S2", 8);
    }

    /** "As things are now." */
    private static void coverAsThingsAreNow() {
        NewRays x = Due.room("ER120R010R012S1S0");
        Due.is("told in", x.cover(), 1);
        x.tell();
        Due.is("told out", x.cover(), 2);
        x.prism();
        Due.is("out", x.cover(), NONE);
        x.tell();
        Due.is("out, told in", x.cover(), NONE);
        NewRays y = Due.room("ER120R110S1");
        y.prism();
        Due.is("by what is expected alone", y.cover(), 2);
        NewRays weary = Due.room("ER022S2");
        weary.read(0, 0);
        Due.is("1 reading", weary.cover(), 1);
        weary.read(0, 0);
        Due.is("2 readings", weary.cover(), NONE);
        // Fooled while it is fresh, and no more when it is weary.
        NewRays fresh = Due.room("ER222S1S0");
        Due.is("fresh", fresh.cover(), NONE);
        fresh.read(0, 0);
        fresh.read(0, 0);
        Due.is("weary", fresh.cover(), 1);
    }

    private static void wrongIs(NewRays x, int many, int which) {
        Due.is("wrong", x.wrong(false), many);
        Due.is("wrong, which", x.wrong(true), which);
    }

    /** "The fewest PAPERS that must be wrong, if all on one SAMPLE must say the same." */
    private static void wrongOfFewPapers() {
        NewRays x = Due.room("ER013R010R010R013R013S0S1");
        wrongIs(x, 0, 0);
        x.read(0, 0);
        wrongIs(x, 0, 0);
        x.read(1, 1);
        wrongIs(x, 0, 0);
        x.read(3, 0);
        x.read(4, 0);
        wrongIs(x, 0, 0);
        x.read(1, 0);
        wrongIs(x, 1, 1 << 4);
        x.withdraw(1, 0);
        wrongIs(x, 0, 0);
        NewRays no = Due.room("ER013R010R010S0");
        no.read(1, 0);
        wrongIs(no, 0, 0);
        no.read(2, 0);
        no.read(0, 0);
        wrongIs(no, 1, 1);
    }

    /** "Of a SAMPLE of which as many say YES as NO: those that say YES." */
    private static void asManyYesAsNo() {
        NewRays x = Due.room("ER010R013R013R010S0S0S0S0");
        for (int s = 0; s < 4; s++) {
            x.read(0, s);
            x.read(1, s);
        }
        wrongIs(x, 4, 0xf0);
        x.read(2, 3);
        wrongIs(x, 4, 0x78);
        x.read(3, 3);
        wrongIs(x, 5, 0x870 | 1 << 7);
    }

    /** Bits 0 to 19: "of READER r on SAMPLE s 4 r and s". */
    private static void wrongOfTwentyPapers() {
        NewRays no = Due.room("ER010R010R010R013R013S0S0S0S0");
        NewRays yes = Due.room("ER013R013R013R010R010S0S0S0S0");
        NewRays all = Due.room("ER013R013R013R013R013S0S0S0S0");
        for (int i = 0; i < 20; i++) {
            no.read(i / 4, i % 4);
            yes.read(i / 4, i % 4);
            all.read(i / 4, i % 4);
        }
        wrongIs(no, 8, 0xff000);
        wrongIs(yes, 8, 0xff000);
        wrongIs(all, 0, 0);
        for (int r = 0; r < 5; r++) {
            for (int s = 0; s < 4; s++) {
                StringBuilder text = new StringBuilder("E");
                for (int i = 0; i < 5; i++) {
                    text.append(i == r ? "R013" : "R010");
                }
                NewRays x = Due.room(text + "S0S0S0S0");
                for (int i = 0; i < 5; i++) {
                    x.read(i, s);
                }
                wrongIs(x, 1, 1 << 4 * r + s);
            }
        }
    }

    private static void judged(NewRays x, int n, int row, int due) {
        Due.is("judge " + n + " " + row, x.judge(n, row), due);
    }

    /** "N doings (1 to 4)." */
    private static void doingsFrom1To4() {
        NewRays x = Due.room(FIVE);
        for (int n = 1; n <= 4; n++) {
            judged(x, n, 0, NONE);
        }
        for (int n : new int[] {Integer.MIN_VALUE, -1, 0, 5, Integer.MAX_VALUE}) {
            judged(x, n, 0, OUTSIDE);
        }
        judged(new NewRays(), 4, 2, 3);
    }

    /** "Row (0 or more, 2 n figures at most)": fewer figures have zeros ahead of them. */
    private static void rowsOfDoings() {
        NewRays x = Due.room(FIVE);
        int[] most = {99, 9999, 999999, 99999999};
        for (int n = 1; n <= 4; n++) {
            judged(x, n, most[n - 1], 0);
            judged(x, n, most[n - 1] + 1, OUTSIDE);
            judged(x, n, -1, OUTSIDE);
            judged(x, n, Integer.MIN_VALUE, OUTSIDE);
            judged(x, n, Integer.MAX_VALUE, OUTSIDE);
            judged(x, n, 0, NONE);
            judged(x, n, 1, NONE);
            judged(x, n, 2, n - 1);
        }
        judged(x, 4, 10, NONE);
        judged(x, 4, 1000, NONE);
        judged(x, 4, 99000000, 0);
        judged(x, 4, 990000, 1);
        judged(x, 4, 9900, 2);
        judged(x, 4, 99, 3);
    }

    /** "0 and 0: PRISM; 0 and 1: TOLD; 1 to 5 and a SAMPLE; 6 and a READER": nothing else can be. */
    private static void figuresWithoutAMeaning() {
        for (int first = 0; first <= 9; first++) {
            for (int second = 0; second <= 9; second++) {
                // All have readings, and nobody is fooled: t is more than what is expected.
                NewRays x = Due.room("ER010R010R010R010R010S0S1S2S3");
                for (int r = 0; r < 5; r++) {
                    x.read(r, 0);
                }
                boolean can = first == 0 && second <= 1 || first >= 1 && first <= 5 && second <= 3
                    || first == 6 && second <= 4;
                judged(x, 1, 10 * first + second, can ? NONE : 0);
                judged(x, 2, 10 * first + second, can ? NONE : 1);
            }
        }
    }

    /** "READ by that READER less 1": there must be such a reader and such a sample. */
    private static void readingsThatCanNotBe() {
        NewRays x = Due.room("ER010R010S0S1");
        judged(x, 1, 10, NONE);
        judged(x, 1, 11, NONE);
        judged(x, 1, 12, 0);
        judged(x, 1, 21, NONE);
        judged(x, 1, 22, 0);
        judged(x, 1, 30, 0);
        judged(x, 1, 50, 0);
        judged(new NewRays(), 1, 10, 0);
        judged(Due.room("ER010"), 1, 10, 0);
        judged(Due.room("ES1"), 1, 10, 0);
    }

    /** "6 and a READER: RESTED": one that has readings by then. */
    private static void restsThatCanNotBe() {
        NewRays x = Due.room("ER010R010S1");
        judged(x, 1, 60, 0);
        judged(x, 2, 1060, NONE);
        judged(x, 2, 1061, 1);
        judged(x, 2, 2061, NONE);
        judged(x, 3, 106060, 2);
        judged(x, 4, 10601060, NONE);
        judged(x, 1, 62, 0);
        x.read(1, 0);
        judged(x, 1, 61, NONE);
        judged(x, 2, 6161, 1);
        judged(x, 1, 60, 0);
        x.rest(1);
        judged(x, 1, 61, 0);
        judged(new NewRays(), 1, 60, 0);
    }

    /** "A READING that says YES of a SAMPLE that is not bright." */
    private static void yesOfWhatIsNotBright() {
        // Plain, on the edge on each side; wishful; weary; a workman. Samples 0 and 1 bright.
        NewRays x = Due.room("ER220R120R121R222R093S0S1");
        judged(x, 1, 10, 0);
        judged(x, 1, 20, NONE);
        judged(x, 1, 30, 0);
        judged(x, 1, 40, 0);
        judged(x, 1, 50, 0);
        for (int r = 1; r <= 5; r++) {
            judged(x, 1, 10 * r + 1, NONE);
            judged(x, 2, 100 + 10 * r, r == 5 ? 1 : NONE);
            judged(x, 2, 10 * r, r == 2 ? NONE : 1);
        }
        judged(x, 2, 4140, 1);
        judged(x, 3, 414140, NONE);
        judged(x, 4, 41416340, 3);
        x.tell();
        judged(x, 1, 10, NONE);
        judged(x, 2, 110, 1);
        judged(x, 3, 10110, NONE);
    }

    /** "The place of the first that can not be": 0 to 3. */
    private static void placesOfTheFirst() {
        NewRays x = Due.room("ER010R013S0");
        judged(x, 4, 20101010, 0);
        judged(x, 4, 10201010, 1);
        judged(x, 4, 10102010, 2);
        judged(x, 4, 10101020, 3);
        judged(x, 4, 10101010, NONE);
        judged(x, 4, 10102099, 2);
        judged(x, 4, 10999920, 1);
        judged(x, 3, 101020, 2);
        judged(x, 2, 1020, 1);
    }

    /** "In what follows nothing is changed." */
    private static void judgedChangesNothing() {
        NewRays x = Due.room(FIVE);
        NewRays y = Due.room(FIVE);
        for (int i = 0; i < 4; i++) {
            x.read(i, i);
            y.read(i, i);
        }
        judged(x, 4, 1306000, NONE);
        judged(x, 4, 30323160, NONE);
        judged(x, 4, 10119999, 1);
        for (int s = 0; s < 4; s++) {
            x.fooled(s);
            x.truly(s);
        }
        x.cover();
        x.wrong(true);
        Due.holds("as if nothing was asked", RefusalTest.look(x).equals(RefusalTest.look(y)));
    }
}
