/** The edges of the text, of readers and samples, and of how bright one is for the other (promises 1 to 8). */
public final class RoomEdgeTest {
    private static final int UNKNOWN = -1, OUTSIDE = -2, STATE = -3, FULL = -4, NONE = -9;
    private static final String FIVE = "R010R121R232R343R990";
    private static final String FOUR = "S0S1S8S9";

    public static void main(String[] args) {
        nobodyNothing();
        lettersFrom0To255();
        atMost36Letters();
        howLongItWas();
        eAndNoneOrMoreParts();
        atMostFiveReaders();
        atMostFourSamples();
        numberedEachForItself();
        figuresOfAPart();
        whateverCameBehindIt();
        onlyNotAtItsEnd();
        lengthSetAside();
        stateIfAFault();
        madeAnew();
        aSmallerRoom();
        elseZero();
        twoMoreIfItExpectsAny();
        readingsByTwoCut();
        zeroAtLeast();
        yesFromOn();
        aWorkmanInAnyCase();
        bitsOfASample();
        Due.end();
    }

    /** "At first there is nobody, nothing." */
    private static void nobodyNothing() {
        NewRays x = new NewRays();
        int[] counts = {0, 0, 0, 1, 1, 0, 0, 0, 0};
        for (int what = 0; what < 9; what++) {
            Due.is("new: count " + what, x.count(what), counts[what]);
        }
        Due.is("new: reader 0", x.reader(0, 0), UNKNOWN);
        Due.is("new: sample 0", x.sample(0, 0), UNKNOWN);
        Due.is("new: fault", x.fault(), 0);
        Due.is("new: room", x.room(), STATE);
        Due.is("new: wipe", x.wipe(), 0);
        Due.is("new: unhear", x.unhear(), 0);
        Due.is("new: seed", x.seed(1), 0);
        Due.is("new: cover", x.cover(), 0);
        Due.is("new: wrong", x.wrong(false), 0);
        Due.is("new: which", x.wrong(true), 0);
        Due.is("new: winters", x.winters(30), 0);
    }

    /** "A letter (0 to 255)." */
    private static void lettersFrom0To255() {
        for (int letter = 0; letter <= 255; letter++) {
            Due.is("letter " + letter, new NewRays().write(letter), 1);
        }
        for (int letter : new int[] {Integer.MIN_VALUE, -1, 256, Integer.MAX_VALUE}) {
            NewRays x = new NewRays();
            Due.is("letter " + letter, x.write(letter), OUTSIDE);
            Due.is("it is not written", x.count(0), 0);
        }
    }

    /** "THE TEXT is letters (36 at most)"; "FULL: there are 36". */
    private static void atMost36Letters() {
        NewRays x = Due.room("E" + FIVE + FOUR);
        Due.is("a room of all there may be", x.count(0), 29);
        for (int length = 30; length <= 36; length++) {
            Due.is("letter to " + length, x.write('0'), length);
        }
        Due.is("letter 37", x.write('0'), FULL);
        Due.is("letter 37 again", x.write(0), FULL);
        Due.is("still 36", x.count(0), 36);
        Due.is("wiped", x.wipe(), 36);
        Due.is("from the start", x.write('E'), 1);
    }

    /** "THE TEXT is empty: how long it was." */
    private static void howLongItWas() {
        NewRays x = new NewRays();
        for (int length = 0; length <= 36; length += 6) {
            for (int i = 0; i < length; i++) {
                x.write('E');
            }
            Due.is("wipe of " + length, x.wipe(), length);
            Due.is("empty", x.count(0), 0);
            Due.is("fault of empty", x.fault(), 0);
        }
        Due.is("wipe of empty", x.wipe(), 0);
    }

    private static void faultOf(String text, int due) {
        Due.is("fault of " + text, Due.written(text).fault(), due);
    }

    private static void roomOf(String text, int due) {
        Due.is("room of " + text, Due.written(text).room(), due);
    }

    /** "A ROOM is a TEXT: E, then PARTS, none or more." */
    private static void eAndNoneOrMoreParts() {
        faultOf("", 0);
        faultOf("E", NONE);
        roomOf("E", 0);
        roomOf("ER010", 10);
        roomOf("ES0", 1);
        for (int letter = 0; letter <= 255; letter++) {
            faultOf("" + (char) letter, letter == 'E' ? NONE : 0);
            faultOf((char) letter + "R010", letter == 'E' ? NONE : 0);
            boolean begins = letter == 'R' || letter == 'S';
            faultOf("E" + (char) letter, begins ? 2 : 1);
            faultOf("ES0" + (char) letter, begins ? 4 : 3);
            faultOf("ER010" + (char) letter, begins ? 6 : 5);
        }
    }

    /** "READERS (5 at most)." */
    private static void atMostFiveReaders() {
        for (int many = 0; many <= 5; many++) {
            roomOf("E" + "R010".repeat(many), 10 * many);
            roomOf("ES0" + "R010".repeat(many), 10 * many + 1);
        }
        faultOf("E" + "R010".repeat(5) + "R", 21);
        faultOf("E" + "R010".repeat(6), 21);
        faultOf("E" + FIVE + "S0R010", 23);
        faultOf("E" + FIVE + FOUR + "R010", 29);
        roomOf("E" + "R010".repeat(6), STATE);
    }

    /** "SAMPLES (4 at most)." */
    private static void atMostFourSamples() {
        for (int many = 0; many <= 4; many++) {
            roomOf("E" + "S0".repeat(many), many);
            roomOf("ER010" + "S0".repeat(many), 10 + many);
        }
        faultOf("E" + "S0".repeat(4) + "S", 9);
        faultOf("E" + "S0".repeat(5), 9);
        faultOf("E" + FOUR + "R010S0", 13);
        faultOf("E" + FIVE + FOUR + "S0", 29);
        roomOf("E" + "S0".repeat(5), STATE);
    }

    /** "READERS, SAMPLES are numbered as they are told, each for itself." */
    private static void numberedEachForItself() {
        NewRays x = Due.room("ES9R010S8R121R232S1R343S0R990");
        Due.is("all there may be", x.count(1) * 10 + x.count(2), 54);
        int[][] readers = {{0, 1, 0}, {1, 2, 1}, {2, 3, 2}, {3, 4, 3}, {9, 9, 0}};
        int[] samples = {9, 8, 1, 0};
        for (int r = 0; r < 5; r++) {
            for (int what = 0; what < 3; what++) {
                Due.is("reader " + r + ", " + what, x.reader(r, what), readers[r][what]);
            }
            Due.is("readings of " + r, x.reader(r, 3), 0);
        }
        for (int s = 0; s < 4; s++) {
            Due.is("sample " + s, x.sample(s, 0), samples[s]);
        }
        Due.is("reader 5", x.reader(5, 0), UNKNOWN);
        Due.is("sample 4", x.sample(4, 0), UNKNOWN);
    }

    /** "EXPECTS e (0 to 9), says YES from t (1 to 9) on, of KIND k: 0 .. 3"; "a (0 to 9) bright". */
    private static void figuresOfAPart() {
        for (int letter = 0; letter <= 255; letter++) {
            char c = (char) letter;
            boolean figure = c >= '0' && c <= '9';
            faultOf("ER" + c + "10", figure ? NONE : 2);
            faultOf("ER0" + c + "0", figure && c != '0' ? NONE : 3);
            faultOf("ER01" + c, figure && c <= '3' ? NONE : 4);
            faultOf("ES" + c, figure ? NONE : 2);
        }
        for (int n = 0; n <= 9; n++) {
            Due.is("expects " + n, Due.room("ER" + n + "10").reader(0, 0), n);
            Due.is("bright " + n, Due.room("ES" + n).sample(0, 0), n);
        }
        for (int t = 1; t <= 9; t++) {
            Due.is("from " + t, Due.room("ER0" + t + "0").reader(0, 1), t);
        }
        for (int k = 0; k <= 3; k++) {
            Due.is("kind " + k, Due.room("ER01" + k).reader(0, 2), k);
        }
    }

    /** "The first letter by which THE TEXT can be no ROOM, whatever came behind it." */
    private static void whateverCameBehindIt() {
        String[] faulty = {"X", "EX", "ER/", "ER0:", "ER00", "ER014", "ES:", "ES0 ", "ER0100", "EE"};
        int[] due = {0, 1, 2, 3, 3, 4, 2, 3, 5, 1};
        for (int i = 0; i < faulty.length; i++) {
            NewRays x = Due.written(faulty[i]);
            Due.is("fault of " + faulty[i], x.fault(), due[i]);
            for (char more : "ER010S0X".toCharArray()) {
                x.write(more);
                Due.is("fault of " + faulty[i] + " and more", x.fault(), due[i]);
            }
        }
    }

    /** "Its length, if it is only not at its end; NONE: none." */
    private static void onlyNotAtItsEnd() {
        NewRays x = new NewRays();
        Due.is("nothing yet", x.fault(), 0);
        String text = "E" + FIVE + FOUR;
        for (int i = 0; i < text.length(); i++) {
            x.write(text.charAt(i));
            int length = i + 1;
            boolean ends = length <= 21 ? length % 4 == 1 : length % 2 == 1;
            Due.is("fault of the first " + length, x.fault(), ends ? NONE : length);
        }
        String other = "ES0R010S0R010";
        int[] due = {NONE, 2, NONE, 4, 5, 6, NONE, 8, NONE, 10, 11, 12, NONE};
        for (int i = 0; i < due.length; i++) {
            faultOf(other.substring(0, i + 1), due[i]);
        }
    }

    /** "(its length set aside)": behind all there may be the next letter is the fault, also in a full text. */
    private static void lengthSetAside() {
        NewRays x = Due.written("E" + FIVE + FOUR);
        Due.is("29 letters", x.fault(), NONE);
        for (int length = 30; length <= 36; length++) {
            x.write(length % 2 == 0 ? 'R' : '0');
            Due.is("fault of " + length, x.fault(), 29);
        }
        Due.is("refused", x.write('0'), FULL);
        Due.is("fault behind a refused letter", x.fault(), 29);
        faultOf("X".repeat(36), 0);
        faultOf("E".repeat(36), 1);
        faultOf("E" + "S0".repeat(4) + "R010".repeat(5) + "0000000", 29);
    }

    /** "STATE: a FAULT." */
    private static void stateIfAFault() {
        for (String text : new String[] {"", "X", "ER", "ER0", "ER01", "ES", "ES0S", "ER014", "ER000", "EE"}) {
            NewRays x = Due.room("ER111S1");
            Due.write(x, text);
            Due.is("room of " + text, x.room(), STATE);
            Due.is("the room is as it was", x.count(1) * 10 + x.count(2), 11);
            Due.is("the text too", x.count(0), text.length());
        }
    }

    /**
     * "The PRISM is IN, it is TOLD so, nobody has READINGS, there are no PAPERS, when THE ROOM is made anew";
     * "(THE ROW of ACTS is empty, what was kept is gone; HEARD, THE SEED stay)".
     */
    private static void madeAnew() {
        NewRays x = Due.room("ER013R020S0");
        x.hear(0, 0, 0, 1);
        x.seed(Long.MIN_VALUE);
        for (int i = 0; i < 20; i++) {
            x.read(i % 2, 0);
        }
        Due.is("a yes and a no", x.sample(0, 2) * 10 + x.sample(0, 3), 12);
        x.keep(0);
        x.keep(1);
        x.prism();
        x.tell();
        Due.is("the same text again", x.room(), 21);
        int[] counts = {11, 2, 1, 1, 1, 0, 0, 0, 1};
        for (int what = 0; what < 9; what++) {
            Due.is("anew: count " + what, x.count(what), counts[what]);
        }
        Due.is("anew: readings", x.reader(0, 3) + x.reader(1, 3), 0);
        Due.is("anew: papers that say yes", x.sample(0, 2), 0);
        Due.is("anew: papers that say no", x.sample(0, 3), 0);
        Due.is("anew: undo", x.undo(), STATE);
        Due.is("anew: again 0", x.again(0), STATE);
        Due.is("anew: again 1", x.again(1), STATE);
        Due.is("anew: withdraw a yes", x.withdraw(0, 0), STATE);
        Due.is("anew: withdraw a no", x.withdraw(1, 0), STATE);
        Due.is("anew: seed", x.seed(0), Long.MIN_VALUE);
        Due.is("anew: unhear", x.unhear(), 1);
    }

    /** Of a room that was larger nobody, nothing is left. */
    private static void aSmallerRoom() {
        NewRays x = Due.room("E" + FIVE + FOUR);
        for (int r = 0; r < 5; r++) {
            x.read(r, 3);
        }
        Due.write(x, "ER010S1");
        Due.is("smaller", x.room(), 11);
        Due.is("reader 1", x.reader(1, 0), UNKNOWN);
        Due.is("sample 1", x.sample(1, 0), UNKNOWN);
        Due.is("says yes", x.sample(0, 1), 1);
        Due.is("papers", x.count(5), 0);
        Due.is("right", x.count(6), 0);
        Due.is("wrong", x.wrong(true), 0);
        Due.write(x, "E");
        Due.is("empty", x.room(), 0);
        Due.is("reader 0", x.reader(0, 0), UNKNOWN);
        Due.is("sample 0", x.sample(0, 0), UNKNOWN);
        Due.write(x, "E" + FIVE + FOUR);
        Due.is("large again", x.room(), 54);
        Due.is("no readings", x.reader(4, 3), 0);
        Due.is("no papers", x.sample(3, 2) + x.sample(3, 3), 0);
    }

    /** "As bright as it is, if the PRISM is IN, else 0; if it is TOLD that it is IN, what the READER EXPECTS more." */
    private static void elseZero() {
        for (int e = 0; e <= 9; e += 3) {
            for (int a = 0; a <= 9; a += 3) {
                NewRays x = Due.room("ER" + e + "10R" + e + "13S" + a);
                Due.is("in, told in", x.bright(0, 0), a + e);
                Due.is("in, told in, a workman", x.bright(1, 0), a + e);
                x.prism();
                Due.is("out, told in", x.bright(0, 0), e);
                x.tell();
                Due.is("out, told out", x.bright(0, 0), 0);
                x.prism();
                Due.is("in, told out", x.bright(0, 0), a);
                Due.is("in, told out, a workman", x.bright(1, 0), a);
            }
        }
    }

    /** "(WISHFUL: 2 more, if it EXPECTS any)." */
    private static void twoMoreIfItExpectsAny() {
        NewRays x = Due.room("ER011R111R911R110S0S9");
        Due.is("expects none", x.bright(0, 0), 0);
        Due.is("expects none, 9 bright", x.bright(0, 1), 9);
        Due.is("expects 1", x.bright(1, 0), 3);
        Due.is("expects 9, 9 bright: the most", x.bright(2, 1), 20);
        Due.is("a plain one expects 1", x.bright(3, 0), 1);
        x.prism();
        Due.is("expects 1, out", x.bright(1, 1), 3);
        x.tell();
        Due.is("expects 9, out, told out", x.bright(2, 1), 0);
        x.prism();
        Due.is("expects 9, in, told out", x.bright(2, 1), 9);
    }

    /** "For a WEARY one its READINGS by 2 (cut) less"; "(9 at most)". */
    private static void readingsByTwoCut() {
        NewRays x = Due.room("ER012R010R011R013S9");
        int[] due = {9, 9, 8, 8, 7, 7, 6, 6, 5, 5, 5, 5};
        for (int readings = 0; readings < due.length; readings++) {
            Due.is("weary by " + readings, x.bright(0, 0), due[readings]);
            for (int r = 1; r < 4; r++) {
                Due.is("another kind by " + readings, x.bright(r, 0), 9);
                x.read(r, 0);
            }
            x.read(0, 0);
        }
    }

    /** "0 at least." */
    private static void zeroAtLeast() {
        int[][] due = {{2, 2, 1, 1, 0, 0, 0, 0, 0, 0, 0}, {1, 1, 0, 0, 0, 0, 0, 0, 0, 0, 0},
            {0, 0, 0, 0, 0, 0, 0, 0, 0, 0, 0}};
        for (int a = 2; a >= 0; a--) {
            NewRays x = Due.room("ER012S" + a);
            NewRays y = Due.room("ER" + a + "12S0");
            for (int readings = 0; readings <= 10; readings++) {
                Due.is(a + " bright, weary by " + readings, x.bright(0, 0), due[2 - a][readings]);
                Due.is(a + " expected, weary by " + readings, y.bright(0, 0), due[2 - a][readings]);
                Due.is("it says", x.read(0, 0), due[2 - a][readings] >= 1 ? 1 : 0);
                y.read(0, 0);
            }
        }
    }

    /** "It says YES, if that is t or more." */
    private static void yesFromOn() {
        for (int t = 1; t <= 9; t++) {
            for (int a = 0; a <= 9; a++) {
                int yes = a >= t ? 1 : 0;
                Due.is("from " + t + " of " + a, Due.room("ER0" + t + "0S" + a).sample(0, 1), yes);
                Due.is("read from " + t + " of " + a, Due.room("ER0" + t + "0S" + a).read(0, 0), yes);
                Due.is("expecting, from " + t + " of " + a, Due.room("ER" + a + t + "0S0").sample(0, 1), yes);
            }
        }
        Due.is("8 of 9 by both", Due.room("ER490S4").sample(0, 1), 0);
        Due.is("9 of 9 by both", Due.room("ER490S5").sample(0, 1), 1);
        Due.is("wishful, 8 of 9", Due.room("ER291S4").sample(0, 1), 0);
        Due.is("wishful, 9 of 9", Due.room("ER291S5").sample(0, 1), 1);
    }

    /** "A WORKMAN says YES in any case." */
    private static void aWorkmanInAnyCase() {
        NewRays x = Due.room("ER093S0S8S9");
        x.prism();
        x.tell();
        for (int i = 0; i < 12; i++) {
            Due.is("a workman reads", x.read(0, i % 3), 1);
        }
        Due.is("bright it is not", x.bright(0, 2), 0);
        Due.is("says yes", x.sample(0, 1), 1);
    }

    /** "READERS that say YES of it now (1: bits), PAPERS on it that say YES (2: bits of READERS), that say NO (3)." */
    private static void bitsOfASample() {
        NewRays x = Due.room("ER013R013R013R013R013S0S0S0S9");
        NewRays y = Due.room("ER090R090R090R090R090S0S0S0S8");
        for (int s = 0; s < 4; s++) {
            Due.is("all say yes of " + s, x.sample(s, 1), 31);
            Due.is("none says yes of " + s, y.sample(s, 1), 0);
            for (int r = 0; r < 5; r++) {
                Due.is("yes papers on " + s, x.sample(s, 2), (1 << r) - 1);
                Due.is("no papers on " + s, y.sample(s, 3), (1 << r) - 1);
                x.read(r, s);
                y.read(r, s);
            }
            Due.is("all print yes of " + s, x.sample(s, 2) * 100 + x.sample(s, 3), 3100);
            Due.is("all print no of " + s, y.sample(s, 2) * 100 + y.sample(s, 3), 31);
        }
        Due.is("what 4", x.sample(3, 4), OUTSIDE);
        Due.is("what -1", x.sample(3, -1), OUTSIDE);
    }
}
