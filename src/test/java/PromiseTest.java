/** One method or more for each promise, with answers worked out by hand from the document. */
public final class PromiseTest {
    private static final int UNKNOWN = -1, OUTSIDE = -2, STATE = -3, FULL = -4, NONE = -9;
    /** r0 wishful, r1 weary, r2 plain, r3 workman, r4 weary; samples 5, 0, 3, 0 bright. */
    private static final String FIVE = "ER341R652R250R193R452S5S0S3S0";
    private static final int[] FAR = {Integer.MIN_VALUE, -2, -1, 5, 6, 100, Integer.MAX_VALUE};

    public static void main(String[] args) {
        promise1();
        promises2And3();
        promise4();
        promise5();
        promise6();
        promise7();
        promise8();
        promise9();
        promise10();
        promise11();
        promises12And13();
        promise14();
        promise14OfMoreThan14();
        promises15And16();
        promise17();
        promise18();
        promise19();
        promises20And21();
        promise22();
        promise23();
        promise24();
        promise25();
        promise26();
        promises27And28();
        promises29And30();
        promise31();
        Due.end();
    }

    private static void promise1() {
        NewRays x = new NewRays();
        int[] due = {0, 0, 0, 1, 1, 0, 0, 0, 0};
        for (int what = 0; what < due.length; what++) {
            Due.is("new: count " + what, x.count(what), due[what]);
        }
        Due.is("new: fault", x.fault(), 0);
        Due.is("new: seed", x.seed(0), 0);
        Due.is("new: undo", x.undo(), STATE);
        Due.is("new: again 0", x.again(0), STATE);
        Due.is("new: again 1", x.again(1), STATE);
        Due.is("new: cover", x.cover(), 0);
    }

    private static void promises2And3() {
        NewRays x = new NewRays();
        Due.is("write 255", x.write(255), 1);
        Due.is("write 0", x.write(0), 2);
        Due.is("write 256", x.write(256), OUTSIDE);
        Due.is("write -1", x.write(-1), OUTSIDE);
        Due.is("write least", x.write(Integer.MIN_VALUE), OUTSIDE);
        for (int i = 3; i <= 36; i++) {
            Due.is("write to " + i, x.write('E'), i);
        }
        Due.is("write beyond 36", x.write('E'), FULL);
        Due.is("write beyond 36, outside", x.write(256), OUTSIDE);
        Due.is("count of 36", x.count(0), 36);
        Due.is("wipe 36", x.wipe(), 36);
        Due.is("wipe again", x.wipe(), 0);
        Due.is("write behind wipe", x.write('E'), 1);
        Due.is("fault behind wipe", x.fault(), NONE);
    }

    private static void faultOf(String text, int due) {
        Due.is("fault of " + text, Due.written(text).fault(), due);
    }

    private static void promise4() {
        faultOf("", 0);
        faultOf("E", NONE);
        faultOf("e", 0);
        faultOf("R", 0);
        faultOf("EE", 1);
        faultOf("ER", 2);
        faultOf("ER0", 3);
        faultOf("ER01", 4);
        faultOf("ER010", NONE);
        faultOf("ER993", NONE);
        faultOf("ER994", 4);
        faultOf("ER90", 3);
        faultOf("ER:1", 2);
        faultOf("ER/1", 2);
        faultOf("ER1:", 3);
        faultOf("ER11/", 4);
        faultOf("ES", 2);
        faultOf("ES9", NONE);
        faultOf("ES:", 2);
        faultOf("ES/", 2);
        faultOf("ES9 ", 3);
        faultOf("ES99", 3);
        faultOf("ER0100", 5);
        faultOf("ES1R010S2R020S3R030S4R040R050", NONE);
        faultOf("ES1R010S2R020S3R030S4R040R050S", 29);
        faultOf("ES1R010S2R020S3R030S4R040R050R", 29);
        faultOf("ES1S1S1S1S", 9);
        faultOf("ER010R010R010R010R010S1R", 23);
        faultOf("ER0X0R0Y0", 3);
        faultOf("ER\0", 2);
        faultOf("EX345678901234567890123456789012345X", 1);
        NewRays x = Due.written("ER010S9");
        Due.write(x, "ER0");
        Due.is("what was wiped is not looked at", x.fault(), 3);
        Due.write(x, "");
        Due.is("all was wiped", x.fault(), 0);
    }

    private static void promise5() {
        NewRays x = Due.written(FIVE);
        Due.is("room", x.room(), 54);
        Due.is("the text stays", x.count(0), 29);
        x.write('X');
        Due.is("the room stays as made", x.count(1), 5);
        x.hear(0, 0, 1, 1);
        x.seed(77);
        x.read(0, 0);
        x.prism();
        x.tell();
        x.keep(1);
        Due.is("room of a fault", x.room(), STATE);
        Due.is("a refused room leaves the papers", x.count(5), 1);
        Due.is("a refused room leaves the slots", x.again(1), 1);
        x.prism();
        Due.write(x, "ES7R123");
        Due.is("the next room", x.room(), 11);
        int[] due = {7, 1, 1, 1, 1, 0, 0, 0, 1};
        for (int what = 0; what < due.length; what++) {
            Due.is("next room: count " + what, x.count(what), due[what]);
        }
        Due.is("next room: readings", x.reader(0, 3), 0);
        Due.is("next room: again", x.again(1), STATE);
        Due.is("next room: undo", x.undo(), STATE);
        Due.is("next room: seed", x.seed(0), 77);
        Due.is("next room: t", x.reader(0, 1), 2);
        Due.write(x, "E");
        Due.is("an empty room", x.room(), 0);
        Due.is("an empty room: reader", x.reader(0, 0), UNKNOWN);
        Due.is("an empty room: sample", x.sample(0, 0), UNKNOWN);
    }

    private static void promise6() {
        NewRays x = Due.room(FIVE);
        int[][] due = {{3, 4, 1, 0}, {6, 5, 2, 0}, {2, 5, 0, 0}, {1, 9, 3, 0}, {4, 5, 2, 0}};
        for (int r = 0; r < 5; r++) {
            for (int what = 0; what < 4; what++) {
                Due.is("reader " + r + " " + what, x.reader(r, what), due[r][what]);
            }
            Due.is("reader " + r + " 4", x.reader(r, 4), OUTSIDE);
            Due.is("reader " + r + " -1", x.reader(r, -1), OUTSIDE);
        }
        x.read(4, 0);
        x.read(4, 1);
        Due.is("two readings", x.reader(4, 3), 2);
        Due.is("none of another", x.reader(3, 3), 0);
        for (int far : FAR) {
            Due.is("reader " + far, x.reader(far, 0), UNKNOWN);
            Due.is("reader " + far + ", what too", x.reader(far, 9), UNKNOWN);
        }
    }

    private static void promise7() {
        NewRays x = Due.room(FIVE);
        int[] bright = {5, 0, 3, 0};
        int[] yes = {31, 11, 31, 11};
        for (int s = 0; s < 4; s++) {
            Due.is("sample " + s + " 0", x.sample(s, 0), bright[s]);
            Due.is("sample " + s + " 1", x.sample(s, 1), yes[s]);
            Due.is("sample " + s + " 4", x.sample(s, 4), OUTSIDE);
            Due.is("sample " + s + " -1", x.sample(s, -1), OUTSIDE);
        }
        x.tell();
        Due.is("told out: all but expecting", x.sample(0, 1), 31);
        Due.is("told out: 3 bright", x.sample(2, 1), 8);
        x.prism();
        Due.is("out: the workman alone", x.sample(0, 1), 8);
        x.read(0, 1);
        x.read(3, 1);
        x.read(4, 1);
        x.read(4, 3);
        Due.is("yes papers on 1", x.sample(1, 2), 8);
        Due.is("no papers on 1", x.sample(1, 3), 17);
        Due.is("no papers on 3", x.sample(3, 3), 16);
        Due.is("yes papers on 3", x.sample(3, 2), 0);
        Due.is("no papers on 0", x.sample(0, 3), 0);
        for (int far : new int[] {-1, 4, 5, Integer.MAX_VALUE, Integer.MIN_VALUE}) {
            Due.is("sample " + far, x.sample(far, 7), UNKNOWN);
        }
    }

    private static void promise8() {
        NewRays x = Due.room(FIVE);
        int[][] told = {{10, 5, 8, 5}, {11, 6, 9, 6}, {7, 2, 5, 2}, {6, 1, 4, 1}, {9, 4, 7, 4}};
        for (int r = 0; r < 5; r++) {
            for (int s = 0; s < 4; s++) {
                Due.is("bright " + r + " " + s, x.bright(r, s), told[r][s]);
            }
        }
        x.prism();
        Due.is("out, told in", x.bright(0, 0), 5);
        x.tell();
        Due.is("out, told out", x.bright(0, 0), 0);
        x.prism();
        Due.is("in, told out", x.bright(0, 0), 5);
        Due.is("in, told out, weary", x.bright(4, 2), 3);
        for (int i = 0; i < 5; i++) {
            x.read(4, 0);
            x.read(2, 0);
        }
        Due.is("weary by 5 readings", x.bright(4, 2), 1);
        Due.is("weary, 0 at least", x.bright(4, 1), 0);
        Due.is("a plain one does not tire", x.bright(2, 2), 3);
        NewRays y = Due.room("ER011R111S0");
        Due.is("wishful that expects none", y.bright(0, 0), 0);
        Due.is("wishful that expects 1", y.bright(1, 0), 3);
        for (int far : FAR) {
            Due.is("bright " + far + " 0", x.bright(far, 0), UNKNOWN);
            Due.is("bright 0 " + far, x.bright(0, far), UNKNOWN);
        }
        Due.is("bright 0 4", x.bright(0, 4), UNKNOWN);
    }

    private static void promise9() {
        NewRays x = Due.room("ER052R013S5S0");
        Due.is("read 1st", x.read(0, 0), 1);
        Due.is("read 2nd, by 1 ahead", x.read(0, 0), 1);
        Due.is("paper says yes", x.sample(0, 2), 1);
        Due.is("read 3rd, by 2 ahead", x.read(0, 0), 0);
        Due.is("paper is no more yes", x.sample(0, 2), 0);
        Due.is("paper says no", x.sample(0, 3), 1);
        Due.is("one paper", x.count(5), 1);
        Due.is("workman", x.read(1, 1), 1);
        for (int i = 0; i < 12; i++) {
            x.read(0, 1);
        }
        Due.is("9 readings at most", x.reader(0, 3), 9);
        Due.is("read 2 0", x.read(2, 0), UNKNOWN);
        Due.is("read 0 2", x.read(0, 2), UNKNOWN);
        Due.is("read -1 0", x.read(-1, 0), UNKNOWN);
        Due.is("read 0 -1", x.read(0, -1), UNKNOWN);
        Due.is("refused ones are no acts", x.count(7), 14);
        NewRays y = Due.room("ER052S5");
        y.read(0, 1);
        Due.is("a refused reading tires nobody", y.reader(0, 3), 0);
        Due.is("a refused reading is no act", y.count(7), 0);
    }

    private static void promise10() {
        NewRays x = Due.room("ER052R052S5");
        Due.is("rest of none", x.rest(0), STATE);
        x.read(0, 0);
        x.read(0, 0);
        x.read(1, 0);
        Due.is("rest", x.rest(0), 2);
        Due.is("rested", x.reader(0, 3), 0);
        Due.is("the other is not", x.reader(1, 3), 1);
        Due.is("the paper stays", x.count(5), 2);
        Due.is("rest again", x.rest(0), STATE);
        Due.is("acts", x.count(7), 4);
        Due.is("undo", x.undo(), 3);
        Due.is("readings again", x.reader(0, 3), 2);
        for (int far : FAR) {
            Due.is("rest " + far, x.rest(far), UNKNOWN);
        }
        Due.is("rest 2", x.rest(2), UNKNOWN);
    }

    private static void promise11() {
        NewRays x = Due.room("ER010R013S0S1");
        Due.is("no paper", x.withdraw(0, 0), STATE);
        x.read(0, 0);
        x.read(1, 0);
        Due.is("paper of another", x.withdraw(0, 1), STATE);
        Due.is("withdraw no", x.withdraw(0, 0), 0);
        Due.is("withdraw yes", x.withdraw(1, 0), 1);
        Due.is("no papers", x.count(5), 0);
        Due.is("readings stay", x.reader(0, 3), 1);
        Due.is("again", x.withdraw(1, 0), STATE);
        Due.is("acts", x.count(7), 4);
        Due.is("undo", x.undo(), 3);
        Due.is("the yes is back", x.sample(0, 2), 2);
        Due.is("undo", x.undo(), 2);
        Due.is("the no is back", x.sample(0, 3), 1);
        Due.is("unknown reader", x.withdraw(2, 0), UNKNOWN);
        Due.is("unknown sample", x.withdraw(0, 2), UNKNOWN);
        Due.is("below", x.withdraw(-1, -1), UNKNOWN);
    }

    private static void promises12And13() {
        NewRays x = new NewRays();
        Due.is("prism out", x.prism(), 0);
        Due.is("count 3", x.count(3), 0);
        Due.is("count 4", x.count(4), 1);
        Due.is("told out", x.tell(), 0);
        Due.is("count 4", x.count(4), 0);
        Due.is("prism in", x.prism(), 1);
        Due.is("told in", x.tell(), 1);
        Due.is("acts", x.count(7), 4);
        Due.is("undo tell", x.undo(), 3);
        Due.is("told out again", x.count(4), 0);
        Due.is("undo prism", x.undo(), 2);
        Due.is("out again", x.count(3), 0);
    }

    private static void promise14() {
        NewRays x = Due.room("ER052R013S5S0");
        x.read(0, 0);
        x.read(0, 0);
        x.read(0, 0);
        Due.is("no by now", x.sample(0, 3), 1);
        Due.is("undo 3rd", x.undo(), 2);
        Due.is("yes as it was", x.sample(0, 2), 1);
        Due.is("two readings", x.reader(0, 3), 2);
        Due.is("undo 2nd", x.undo(), 1);
        Due.is("still yes", x.sample(0, 2), 1);
        Due.is("undo 1st", x.undo(), 0);
        Due.is("no paper", x.count(5), 0);
        Due.is("no readings", x.reader(0, 3), 0);
        Due.is("nothing left", x.undo(), STATE);
        x.prism();
        Due.is("one act", x.count(7), 1);
        Due.is("undone", x.undo(), 0);
        Due.is("in", x.count(3), 1);
    }

    private static void promise14OfMoreThan14() {
        NewRays x = Due.room("ER010S5");
        for (int i = 0; i < 16; i++) {
            x.read(0, 0);
            Due.is("acts after " + i, x.count(7), Math.min(14, i + 1));
        }
        for (int left = 13; left >= 0; left--) {
            Due.is("left", x.undo(), left);
        }
        Due.is("the first two are forgotten", x.reader(0, 3), 2);
        Due.is("none left", x.undo(), STATE);
        x.tell();
        x.rest(0);
        Due.is("undo rest", x.undo(), 1);
        Due.is("readings", x.reader(0, 3), 2);
        Due.is("undo tell", x.undo(), 0);
        Due.is("told in", x.count(4), 1);
    }

    private static void promises15And16() {
        NewRays x = Due.room(FIVE);
        int[] truly = {23, 0, 0, 0};
        for (int s = 0; s < 4; s++) {
            Due.is("fooled " + s, x.fooled(s), 11);
            Due.is("truly " + s, x.truly(s), truly[s]);
        }
        x.tell();
        x.prism();
        Due.is("fooled, whatever is told", x.fooled(0), 11);
        Due.is("truly, whatever is told", x.truly(0), 23);
        for (int i = 0; i < 4; i++) {
            x.read(1, 3);
        }
        Due.is("a weary one is fooled no more", x.fooled(2), 9);
        Due.is("a weary one sees truly no more", x.truly(0), 21);
        Due.is("acts", x.count(7), 6);
        for (int far : new int[] {-1, 4, Integer.MIN_VALUE, Integer.MAX_VALUE}) {
            Due.is("fooled " + far, x.fooled(far), UNKNOWN);
            Due.is("truly " + far, x.truly(far), UNKNOWN);
        }
    }

    private static void promise17() {
        NewRays x = Due.room(FIVE);
        Due.is("cover", x.cover(), 4);
        x.tell();
        Due.is("told out: nobody fit sees 3", x.cover(), NONE);
        x.prism();
        Due.is("out: nobody sees", x.cover(), NONE);
        Due.is("nothing bright", Due.room("ER010S0S0").cover(), 0);
        Due.is("no samples", Due.room("ER010R020").cover(), 0);
        Due.is("no readers", Due.room("ES1").cover(), NONE);
        Due.is("no bright sample, no readers", Due.room("ES0").cover(), 0);
        Due.is("a workman may, if all is bright", Due.room("ER090R013S1S2").cover(), 2);
        Due.is("a workman may not", Due.room("ER090R013S1S0").cover(), NONE);
        Due.is("the least of like ones", Due.room("ER090R020R020S2").cover(), 2);
        // The sharp one is fooled by the dark sample; of the rest none sees the faint one.
        Due.is("the sharp ones are fooled", Due.room("ER110R150R090S9S2S0").cover(), NONE);
        Due.is("one for all", Due.room("ER050R020R090S9S2S0").cover(), 2);
        // A weary one sees the faint sample until it has read twice.
        NewRays y = Due.room("ER022R020S2");
        Due.is("the first of two", y.cover(), 1);
        y.read(0, 0);
        y.read(0, 0);
        Due.is("the weary one is out", y.cover(), 2);
    }

    private static void promise18() {
        NewRays x = Due.room("ER010R010R010R013R013S0S1S5S0");
        Due.is("none", x.wrong(false), 0);
        Due.is("which of none", x.wrong(true), 0);
        x.read(0, 0);
        Due.is("one paper", x.wrong(false), 0);
        x.read(4, 0);
        Due.is("one and one", x.wrong(false), 1);
        Due.is("the one that says yes", x.wrong(true), 1 << 16);
        x.read(3, 0);
        Due.is("no is less", x.wrong(true), 1);
        x.read(1, 0);
        Due.is("two and two", x.wrong(false), 2);
        Due.is("those that say yes", x.wrong(true), 1 << 16 | 1 << 12);
        x.read(1, 1);
        x.prism();
        x.tell();
        x.read(2, 1);
        Due.is("two samples", x.wrong(false), 3);
        Due.is("two samples, which", x.wrong(true), 1 << 16 | 1 << 12 | 1 << 5);
        x.read(0, 3);
        x.read(1, 3);
        x.read(4, 3);
        Due.is("three samples, which", x.wrong(true), 1 << 16 | 1 << 12 | 1 << 5 | 1 << 19);
        Due.is("three samples", x.wrong(false), 4);
    }

    private static void promise19() {
        NewRays x = Due.room(FIVE);
        Due.is("prism", x.judge(1, 0), NONE);
        Due.is("told", x.judge(1, 1), NONE);
        Due.is("0 and 2", x.judge(1, 2), 0);
        Due.is("0 and 9", x.judge(1, 9), 0);
        Due.is("read bright", x.judge(1, 10), NONE);
        Due.is("fooled", x.judge(1, 11), 0);
        Due.is("not fooled", x.judge(1, 31), NONE);
        Due.is("no such sample", x.judge(1, 14), 0);
        Due.is("the fifth", x.judge(1, 51), NONE);
        Due.is("rest of none", x.judge(1, 60), 0);
        Due.is("read and rest", x.judge(2, 1060), NONE);
        Due.is("read and rest another", x.judge(2, 1061), 1);
        Due.is("rest twice", x.judge(3, 106060), 2);
        Due.is("rest of nobody", x.judge(2, 1065), 1);
        Due.is("7", x.judge(1, 70), 0);
        Due.is("9", x.judge(1, 99), 0);
        Due.is("told out first", x.judge(2, 111), NONE);
        Due.is("prism out is not enough", x.judge(2, 11), 1);
        Due.is("told out and in", x.judge(3, 10111), 2);
        Due.is("a no of a bright one is let pass", x.judge(3, 10010), NONE);
        Due.is("told three times", x.judge(4, 1010111), NONE);
        Due.is("told twice, the fourth is fooled", x.judge(4, 1011011), 3);
        Due.is("weary by two readings, still fooled", x.judge(3, 202021), 2);
        Due.is("weary by three readings, still fooled", x.judge(4, 20202021), 3);
        Due.is("nothing changed", x.count(7) + x.count(5), 0);
        for (int i = 0; i < 4; i++) {
            x.read(1, 0);
        }
        Due.is("from the readings there are", x.judge(1, 21), NONE);
        Due.is("rested, and fooled again", x.judge(2, 6121), 1);
        Due.is("readings are as they were", x.reader(1, 3), 4);
        Due.is("7 and one that has readings", x.judge(1, 71), 0);
        Due.is("n 0", x.judge(0, 0), OUTSIDE);
        Due.is("n 5", x.judge(5, 0), OUTSIDE);
        Due.is("n -1", x.judge(-1, 0), OUTSIDE);
        Due.is("n most", x.judge(Integer.MAX_VALUE, 0), OUTSIDE);
        Due.is("row -1", x.judge(1, -1), OUTSIDE);
        Due.is("row 100", x.judge(1, 100), OUTSIDE);
        Due.is("row 10000", x.judge(2, 10000), OUTSIDE);
        Due.is("row of 8", x.judge(4, 99999999), 0);
        Due.is("row of 9", x.judge(4, 100000000), OUTSIDE);
    }

    private static void promises20And21() {
        NewRays x = Due.room(FIVE);
        for (int i = 1; i <= 6; i++) {
            Due.is("hear", x.hear(0, 0, 1, 1), i);
        }
        Due.is("hear 7", x.hear(0, 0, 1, 1), FULL);
        Due.is("outside ahead of full", x.hear(0, 0, 2, 1), OUTSIDE);
        Due.is("unknown ahead of outside", x.hear(5, 0, 2, 1), UNKNOWN);
        Due.is("count", x.count(8), 6);
        Due.is("unhear", x.unhear(), 6);
        Due.is("unhear again", x.unhear(), 0);
        Due.is("unknown sample", x.hear(0, 4, 1, 1), UNKNOWN);
        Due.is("unknown reader", x.hear(-1, 0, 1, 1), UNKNOWN);
        Due.is("prism -1", x.hear(0, 0, -1, 1), OUTSIDE);
        Due.is("yes 2", x.hear(0, 0, 0, 2), OUTSIDE);
        Due.is("yes -1", x.hear(0, 0, 0, -1), OUTSIDE);
        Due.is("count", x.count(8), 0);
        Due.is("heard is no act", x.count(7), 0);
    }

    private static void promise22() {
        NewRays x = Due.room(FIVE);
        Due.is("nothing heard", x.expect(0), 1023);
        // r2: plain, t 5; sample 2 is 3 bright.
        x.hear(2, 2, 1, 1);
        Due.is("yes of 3: 2 and more", x.expect(2), 1023 & ~3);
        x.hear(2, 2, 0, 0);
        Due.is("no of 0: 4 and less", x.expect(2), 4 + 8 + 16);
        Due.is("of another nothing", x.expect(1), 1023);
        x.hear(2, 0, 1, 0);
        Due.is("against itself", x.expect(2), 0);
        // r0: wishful, t 4; expecting 1 is 3 more, 2 is 4 more.
        x.hear(0, 1, 1, 1);
        Due.is("wishful", x.expect(0), 1023 & ~3);
        // r3: a workman says yes to all.
        x.hear(3, 1, 0, 1);
        Due.is("a workman's yes", x.expect(3), 1023);
        x.hear(3, 1, 0, 0);
        Due.is("a workman's no", x.expect(3), 0);
        for (int far : FAR) {
            Due.is("expect " + far, x.expect(far), UNKNOWN);
        }
        weariness();
        laterRooms();
    }

    private static void weariness() {
        NewRays x = Due.room("ER052S3");
        x.hear(0, 0, 1, 1);
        for (int i = 0; i < 6; i++) {
            x.read(0, 0);
        }
        x.tell();
        x.prism();
        Due.is("as without readings, told in", x.expect(0), 1023 & ~3);
    }

    private static void laterRooms() {
        NewRays x = Due.room("ER050R050S0S3");
        x.hear(0, 1, 1, 1);
        x.hear(1, 0, 1, 0);
        Due.write(x, "ER050S3");
        x.room();
        Due.is("of a sample that is not any more", x.expect(0), 1023);
        Due.is("of a reader that is not any more", x.expect(1), UNKNOWN);
        Due.is("it is still heard", x.count(8), 2);
        Due.write(x, "ER060R040S1S4");
        x.room();
        Due.is("looked at again, as it is now", x.expect(0), 1023 & ~3);
        Due.is("looked at again, as it is now", x.expect(1), 7);
    }

    private static void promise23() {
        // Plain, expects 1, from 3 on: yes of 2 bright and more, if the prism is in.
        NewRays x = Due.room("ER130R352R013R031S5S0S1");
        Due.is("yes no yes", x.gone(0, 3, 121, 5), 8);
        Due.is("yes no no", x.gone(0, 3, 121, 1), 2 + 4);
        Due.is("all no", x.gone(0, 3, 121, 0), 1);
        Due.is("no and yes can't be", x.gone(0, 3, 121, 4), 0);
        Due.is("no difference", x.gone(0, 2, 22, 0), 7);
        // Weary, expects 3, from 5 on; of 5 bright 8, 8, 7, 7, 6, 6; without the prism 3.
        Due.is("weary", x.gone(1, 6, 111111, 15), 1 << 4);
        Due.is("weary, all", x.gone(1, 6, 111111, 63), 1 << 6);
        Due.is("weary, faint", x.gone(1, 6, 333333, 0), 127);
        Due.is("a workman, all yes", x.gone(2, 2, 12, 3), 7);
        Due.is("a workman, a no", x.gone(2, 2, 12, 1), 0);
        NewRays y = Due.room("ER022S3S2");
        // 3, 3 less 0, then less 1: from 2 on; the third of 2 bright is 1.
        Due.is("tired by the third", y.gone(0, 3, 222, 3), 4 + 8);
        Due.is("the first figure is the first one", y.gone(0, 3, 221, 7), 8);
        for (int i = 0; i < 6; i++) {
            y.read(0, 0);
        }
        y.tell();
        y.prism();
        Due.is("as without readings", y.gone(0, 3, 221, 7), 8);
        Due.is("unknown", x.gone(4, 0, -1, -1), UNKNOWN);
        Due.is("unknown", x.gone(-1, 1, 1, 0), UNKNOWN);
        Due.is("n 0", x.gone(0, 0, 0, 0), OUTSIDE);
        Due.is("n 7", x.gone(0, 7, 1111111, 0), OUTSIDE);
        Due.is("n most", x.gone(0, Integer.MAX_VALUE, 1, 0), OUTSIDE);
        Due.is("row -1", x.gone(0, 1, -1, 0), OUTSIDE);
        Due.is("row too long", x.gone(0, 1, 11, 0), OUTSIDE);
        Due.is("said 2 of 1", x.gone(0, 1, 1, 2), OUTSIDE);
        Due.is("said -1", x.gone(0, 1, 1, -1), OUTSIDE);
        Due.is("said 64", x.gone(0, 6, 111111, 64), OUTSIDE);
        Due.is("outside ahead of state", x.gone(0, 1, 9, 2), OUTSIDE);
        Due.is("figure 4 of three", x.gone(0, 1, 4, 0), STATE);
        Due.is("figure 0", x.gone(0, 1, 0, 0), STATE);
        Due.is("too few figures", x.gone(0, 3, 12, 0), STATE);
        Due.is("figure 0 inside", x.gone(0, 3, 102, 0), STATE);
    }

    private static void shareIs(NewRays x, int reader, int above, int below) {
        Due.is("share of " + reader + ", above", x.share(reader, true), above);
        Due.is("share of " + reader + ", below", x.share(reader, false), below);
    }

    private static void promise24() {
        // One that is right, one that is wrong: alone 1, together not more than half.
        NewRays x = Due.room("ER010R090S1");
        shareIs(x, 0, 1, 2);
        shareIs(x, 1, -1, 2);
        // Two right, one wrong: v of sets: 1, 1, 0; 1, 0, 0; 1.
        NewRays y = Due.room("ER010R010R090S1");
        shareIs(y, 0, 2, 3);
        shareIs(y, 1, 2, 3);
        shareIs(y, 2, -1, 3);
        NewRays z = Due.room("ER010R010S1S2S0S0");
        shareIs(z, 0, 2, 1);
        shareIs(z, 1, 2, 1);
        NewRays none = Due.room("ER010R020");
        shareIs(none, 0, 0, 1);
        NewRays wrong = Due.room("ER090S1");
        shareIs(wrong, 0, 0, 1);
        wrong.prism();
        shareIs(wrong, 0, 0, 1);
        NewRays now = Due.room("ER010S1S0");
        shareIs(now, 0, 2, 1);
        now.prism();
        shareIs(now, 0, 1, 1);
        for (int far : FAR) {
            shareIs(x, far, UNKNOWN, UNKNOWN);
        }
        shareIs(x, 2, UNKNOWN, UNKNOWN);
        shareIs(new NewRays(), 0, UNKNOWN, UNKNOWN);
    }

    private static void restsAre(NewRays x, int one, int other, int many, int first) {
        Due.is("rests " + one + " " + other, x.rests(one, other, 0, 0), many);
        Due.is("first " + one + " " + other, x.rests(one, other, 0, 1), first);
    }

    private static void promise25() {
        NewRays x = Due.room("ER010R010R090R090S1");
        restsAre(x, 0, 1, 1, 11);
        restsAre(x, 2, 3, 2, 0);
        restsAre(x, 0, 2, 1, 10);
        restsAre(x, 2, 0, 1, 1);
        x.prism();
        restsAre(x, 0, 1, 2, 0);
        Due.is("unknown one", x.rests(4, 4, 0, 9), UNKNOWN);
        Due.is("unknown other", x.rests(0, 4, 0, 9), UNKNOWN);
        Due.is("unknown sample", x.rests(0, 0, 1, 9), UNKNOWN);
        Due.is("below", x.rests(-1, 0, 0, 0), UNKNOWN);
        Due.is("below", x.rests(0, -1, 0, 0), UNKNOWN);
        Due.is("below", x.rests(0, 1, -1, 0), UNKNOWN);
        Due.is("one and the same", x.rests(1, 1, 0, 0), OUTSIDE);
        Due.is("what 2", x.rests(0, 1, 0, 2), OUTSIDE);
        Due.is("what -1", x.rests(0, 1, 0, -1), OUTSIDE);
    }

    private static void flickers(NewRays x, int m, int tenths, int above, int below) {
        Due.is("flicker " + m + " " + tenths + ", above", x.flicker(0, m, tenths, true), above);
        Due.is("flicker " + m + " " + tenths + ", below", x.flicker(0, m, tenths, false), below);
    }

    private static void promise26() {
        // Two on the edge, one that says yes anyway, one that never does.
        NewRays x = Due.room("ER040R040R030R090S3");
        flickers(x, 0, 5, 1, 1);
        flickers(x, 1, 0, 1, 1);
        flickers(x, 2, 0, 0, 1);
        flickers(x, 2, 5, 3, 4);
        flickers(x, 3, 5, 1, 4);
        flickers(x, 3, 3, 9, 100);
        flickers(x, 2, 3, 51, 100);
        flickers(x, 3, 10, 1, 1);
        flickers(x, 4, 10, 0, 1);
        flickers(x, 5, 10, 0, 1);
        NewRays y = Due.room("ER010R010R010R010R010S0");
        flickers(y, 5, 1, 1, 100000);
        flickers(y, 5, 9, 59049, 100000);
        flickers(y, 1, 2, 2101, 3125);
        flickers(Due.room("ER050S3"), 1, 10, 0, 1);
        flickers(Due.room("ER013R090S0"), 1, 0, 1, 1);
        flickers(Due.room("ES0"), 0, 4, 1, 1);
        flickers(Due.room("ES0"), 1, 4, 0, 1);
        NewRays out = Due.room("ER140S3");
        flickers(out, 1, 7, 1, 1);
        out.prism();
        flickers(out, 1, 7, 0, 1);
        for (int way = 0; way < 2; way++) {
            boolean upper = way == 0;
            Due.is("sample 1", x.flicker(1, 9, 99, upper), UNKNOWN);
            Due.is("sample -1", x.flicker(-1, 0, 0, upper), UNKNOWN);
            Due.is("m -1", x.flicker(0, -1, 0, upper), OUTSIDE);
            Due.is("m 6", x.flicker(0, 6, 0, upper), OUTSIDE);
            Due.is("x -1", x.flicker(0, 0, -1, upper), OUTSIDE);
            Due.is("x 11", x.flicker(0, 0, 11, upper), OUTSIDE);
        }
    }

    private static void promises27And28() {
        NewRays x = Due.room("ER013R010R010R010R010S1S0S1S0");
        Due.is("seed", x.seed(Long.MIN_VALUE), 0);
        Due.is("seed", x.seed(-1), Long.MIN_VALUE);
        Due.is("seed", x.seed(7), -1);
        Due.is("m 0", x.winters(0), OUTSIDE);
        Due.is("m 31", x.winters(31), OUTSIDE);
        Due.is("m -1", x.winters(-1), OUTSIDE);
        Due.is("a refused one leaves the seed", x.seed(7), 7);
        x.winters(3);
        long after = 7;
        for (int i = 0; i < 3; i++) {
            after = after * 6364136223846793005L + 1442695040888963407L;
        }
        Due.is("three steps", x.seed(7), after);
        Due.is("nothing else changes", x.count(5) * 100 + x.count(7) * 10 + x.count(3) + x.count(4), 2);
        Due.is("thirty", Due.room("ES0").winters(30), 0);
        oneWinter();
        // Without the prism a bright sample is not seen; not told, a dark one is not expected.
        twoWinters(20, "ER010S1", 1, 0);
        twoWinters(21, "ER110S0", 0, 1);
    }

    /** First a reading of the one sample by the one reader, and then behind a turn of prism or told. */
    private static void twoWinters(int turn, String text, int straight, int turned) {
        boolean metStraight = false;
        boolean metTurned = false;
        for (long v = 0; v < 20000 && !(metStraight && metTurned); v++) {
            long first = v * 6364136223846793005L + 1442695040888963407L;
            long second = first * 6364136223846793005L + 1442695040888963407L;
            long one = (first >>> 33) % 22;
            if ((second >>> 33) % 22 != 0 || one != turn && one != 19) {
                continue;
            }
            metStraight |= one == 19;
            metTurned |= one == turn;
            NewRays x = Due.room(text);
            x.seed(v);
            Due.is("winters " + one + " and 0", x.winters(2), one == turn ? turned : straight);
        }
        Due.holds("both were met", metStraight && metTurned);
    }

    /** Of each thing that may be left, by a seed that was looked for. */
    private static void oneWinter() {
        boolean[] met = new boolean[22];
        for (long v = 0; v < 2000; v++) {
            long next = v * 6364136223846793005L + 1442695040888963407L;
            int left = (int) ((next >>> 33) % 22);
            if (met[left]) {
                continue;
            }
            met[left] = true;
            NewRays x = Due.room("ER013R010R010R010S1S0S1");
            x.seed(v);
            boolean there = left < 16 && left % 4 < 3;
            boolean fooled = left == 1;
            Due.is("winter " + left, x.winters(1), there && !fooled ? 1 : 0);
            Due.is("papers stay", x.count(5), 0);
            Due.is("prism and told stay", x.count(3) + x.count(4), 2);
        }
        for (int left = 0; left < 22; left++) {
            Due.holds("met " + left, met[left]);
        }
    }

    private static void promises29And30() {
        NewRays x = Due.room("ER010R013S1S0");
        Due.is("again of none", x.again(0), STATE);
        Due.is("keep", x.keep(0), 0);
        x.read(0, 0);
        x.read(0, 0);
        x.prism();
        x.tell();
        x.read(1, 1);
        Due.is("keep 1", x.keep(1), 2);
        Due.is("keeping is no act", x.count(7), 5);
        Due.is("again 0", x.again(0), 0);
        Due.is("readings as kept", x.reader(0, 3), 0);
        Due.is("in as kept", x.count(3), 1);
        Due.is("told as kept", x.count(4), 1);
        Due.is("the row is empty", x.count(7), 0);
        Due.is("undo", x.undo(), STATE);
        Due.is("again 1", x.again(1), 2);
        Due.is("readings as kept", x.reader(0, 3), 2);
        Due.is("out as kept", x.count(3), 0);
        Due.is("told out as kept", x.count(4), 0);
        Due.is("yes on 1", x.sample(1, 2), 2);
        x.withdraw(1, 1);
        Due.is("kept is kept", x.again(1), 2);
        x.withdraw(1, 1);
        Due.is("kept anew", x.keep(1), 1);
        Due.is("again anew", x.again(1), 1);
        for (int far : new int[] {-1, 2, 3, Integer.MIN_VALUE, Integer.MAX_VALUE}) {
            Due.is("keep " + far, x.keep(far), UNKNOWN);
            Due.is("again " + far, x.again(far), UNKNOWN);
        }
        x.read(0, 1);
        x.again(5);
        x.room();
        Due.is("a new room: again 0", x.again(0), STATE);
        Due.is("a new room: again 1", x.again(1), STATE);
        x.prism();
        Due.is("a refused one leaves the row", x.again(0) + x.count(7), STATE + 1);
    }

    private static void promise31() {
        NewRays x = Due.room(FIVE);
        x.wipe();
        x.write('E');
        x.write('S');
        x.read(0, 0);
        x.read(0, 1);
        x.read(2, 1);
        x.read(2, 2);
        x.prism();
        x.tell();
        x.read(2, 0);
        x.hear(0, 0, 0, 0);
        int[] due = {2, 5, 4, 0, 0, 5, 3, 7, 1};
        for (int what = 0; what < due.length; what++) {
            Due.is("count " + what, x.count(what), due[what]);
        }
        Due.is("count 9", x.count(9), OUTSIDE);
        Due.is("count -1", x.count(-1), OUTSIDE);
        Due.is("count least", x.count(Integer.MIN_VALUE), OUTSIDE);
    }
}
