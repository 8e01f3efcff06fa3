import java.util.List;

/** The edges of acts, of their row, of slots and of counts (promises 9 to 14 and 29 to 31). */
public final class ActEdgeTest {
    private static final int UNKNOWN = -1, OUTSIDE = -2, STATE = -3, NONE = -9;
    private static final String ALL = "ER010R010R013R090R013S1S0S9S0";
    private static final String[] KINDS = {"read", "rest", "withdraw", "prism", "tell"};

    public static void main(String[] args) {
        nineReadingsAtMost();
        byItsReadingsAhead();
        paperOfEachOnEach();
        readingsItHad();
        oneIfItSaidYes();
        inOrOut();
        fourteenActsAtMost();
        theFirstOneIsForgotten();
        theFifteenthIsUndone();
        theRowGoesRound();
        theLastOneIsUndone();
        actsThatShowNothing();
        slots0To1();
        emptyWhenOneGoesOn();
        keptOverAndGone();
        twentyPapers();
        bothSidesOfRight();
        countsAtTheirMost();
        Due.end();
    }

    /** "A READER has 1 of READINGS more (9 at most)." */
    private static void nineReadingsAtMost() {
        NewRays x = Due.room("ER012R012S9S0");
        for (int i = 1; i <= 12; i++) {
            x.read(0, i % 2);
            Due.is("readings after " + i, x.reader(0, 3), Math.min(9, i));
            Due.is("readings of the other", x.reader(1, 3), 0);
        }
        Due.is("undo at 9", x.undo() + x.reader(0, 3), 20);
        x.undo();
        x.undo();
        Due.is("undone from 10 to 9", x.reader(0, 3), 9);
        x.undo();
        Due.is("undone from 9 to 8", x.reader(0, 3), 8);
        Due.is("read at 8", x.read(0, 0) + x.reader(0, 3), 10);
    }

    /** "Its PAPER on that SAMPLE says what it says (by its READINGS ahead)." */
    private static void byItsReadingsAhead() {
        NewRays x = Due.room("ER062S9");
        int[] due = {1, 1, 1, 1, 1, 1, 1, 1, 0, 0, 0, 0};
        for (int ahead = 0; ahead < due.length; ahead++) {
            Due.is("with " + ahead + " ahead", x.read(0, 0), due[ahead]);
            Due.is("paper yes with " + ahead + " ahead", x.sample(0, 2), due[ahead]);
            Due.is("paper no with " + ahead + " ahead", x.sample(0, 3), 1 - due[ahead]);
            Due.is("one paper", x.count(5), 1);
        }
        NewRays y = Due.room("ER012S1");
        Due.is("none ahead", y.read(0, 0), 1);
        Due.is("1 ahead", y.read(0, 0), 1);
        Due.is("it would say no by now", y.sample(0, 1), 0);
        Due.is("the paper says yes", y.sample(0, 2), 1);
        Due.is("2 ahead", y.read(0, 0), 0);
    }

    /** Each of five readers on each of four samples, and the first ones that are not there. */
    private static void paperOfEachOnEach() {
        for (int r = 0; r < 5; r++) {
            for (int s = 0; s < 4; s++) {
                NewRays x = Due.room(ALL);
                boolean yes = r == 2 || r == 4 || r < 2 && (s == 0 || s == 2) || r == 3 && s == 2;
                Due.is("read " + r + " " + s, x.read(r, s), yes ? 1 : 0);
                Due.is("one paper", x.count(5), 1);
                Due.is("yes on " + s, x.sample(s, 2), yes ? 1 << r : 0);
                Due.is("no on " + s, x.sample(s, 3), yes ? 0 : 1 << r);
                Due.is("readings", x.reader(r, 3), 1);
                Due.is("withdraw " + r + " " + s, x.withdraw(r, s), yes ? 1 : 0);
                Due.is("no paper", x.count(5), 0);
                Due.is("withdraw again", x.withdraw(r, s), STATE);
                Due.is("readings stay", x.reader(r, 3), 1);
            }
        }
        NewRays x = Due.room(ALL);
        Due.is("read 5 3", x.read(5, 3), UNKNOWN);
        Due.is("read 4 4", x.read(4, 4), UNKNOWN);
        Due.is("withdraw 5 3", x.withdraw(5, 3), UNKNOWN);
        Due.is("withdraw 4 4", x.withdraw(4, 4), UNKNOWN);
    }

    /** "RESTED: the READINGS it had. UNKNOWN; STATE: none." */
    private static void readingsItHad() {
        NewRays x = Due.room(ALL);
        for (int had = 0; had <= 11; had++) {
            for (int i = 0; i < had; i++) {
                x.read(4, 0);
            }
            Due.is("rest of " + had, x.rest(4), had == 0 ? STATE : Math.min(9, had));
            Due.is("rested", x.reader(4, 3), 0);
        }
        Due.is("rest again", x.rest(4), STATE);
        Due.is("rest 5", x.rest(5), UNKNOWN);
        Due.is("rest -1", x.rest(-1), UNKNOWN);
        NewRays y = Due.room("ER022S2");
        y.read(0, 0);
        y.read(0, 0);
        Due.is("weary", y.bright(0, 0), 1);
        y.rest(0);
        Due.is("no more weary", y.bright(0, 0), 2);
        Due.is("the paper stays", y.sample(0, 2), 1);
    }

    /** "WITHDRAWN: 1 if it said YES, 0. STATE: there is no such PAPER." */
    private static void oneIfItSaidYes() {
        NewRays x = Due.room("ER010S1");
        Due.is("no paper yet", x.withdraw(0, 0), STATE);
        x.read(0, 0);
        x.prism();
        x.tell();
        Due.is("what it said, not what it would say", x.withdraw(0, 0), 1);
        x.read(0, 0);
        x.prism();
        Due.is("what it said, not what it would say", x.withdraw(0, 0), 0);
        Due.is("none is left", x.withdraw(0, 0), STATE);
        Due.is("acts", x.count(7), 7);
    }

    /** "PRISM: 1 if it is IN then, 0"; "TOLD: 1 if it is TOLD then that it is IN, 0". */
    private static void inOrOut() {
        NewRays x = new NewRays();
        for (int i = 1; i <= 31; i++) {
            Due.is("prism " + i, x.prism(), i % 2 == 1 ? 0 : 1);
            Due.is("it is", x.count(3), i % 2 == 1 ? 0 : 1);
            Due.is("told as before", x.count(4), i % 2 == 1 ? 1 : 0);
            Due.is("tell " + i, x.tell(), i % 2 == 1 ? 0 : 1);
            Due.is("it is told", x.count(4), i % 2 == 1 ? 0 : 1);
        }
    }

    /** "ACTS are a row (14 at most)." */
    private static void fourteenActsAtMost() {
        for (int acts = 0; acts <= 45; acts++) {
            NewRays x = new NewRays();
            for (int i = 0; i < acts; i++) {
                x.prism();
            }
            int row = Math.min(14, acts);
            Due.is("acts in the row of " + acts, x.count(7), row);
            for (int left = row - 1; left >= 0; left--) {
                Due.is("left of " + acts, x.undo(), left);
                Due.is("in the row", x.count(7), left);
            }
            Due.is("none is left of " + acts, x.undo(), STATE);
            Due.is("the prism as far back as can be", x.count(3), (acts - row) % 2 == 0 ? 1 : 0);
        }
    }

    /** An object in which each kind of act can be done, with an empty row. */
    private static NewRays ready() {
        NewRays x = Due.room("ER010R013S1S0");
        x.read(0, 0);
        x.keep(0);
        x.again(0);
        return x;
    }

    private static void act(NewRays x, String kind) {
        switch (kind) {
            case "read": Due.is("read", x.read(0, 1), 0); break;
            case "rest": Due.is("rest", x.rest(0), 1); break;
            case "withdraw": Due.is("withdraw", x.withdraw(0, 0), 1); break;
            case "prism": Due.is("prism", x.prism(), 0); break;
            default: Due.is("tell", x.tell(), 0);
        }
    }

    private static List<Integer> shown(NewRays x) {
        return List.of(x.count(3), x.count(4), x.count(5), x.reader(0, 3), x.reader(1, 3),
            x.sample(0, 2), x.sample(0, 3), x.sample(1, 2), x.sample(1, 3));
    }

    /** "Of more the first one is forgotten": each kind of act, as the first of 14 and of 15. */
    private static void theFirstOneIsForgotten() {
        for (String kind : KINDS) {
            List<Integer> ahead = shown(ready());
            NewRays once = ready();
            act(once, kind);
            List<Integer> behind = shown(once);
            Due.holds(kind + " shows", !ahead.equals(behind));
            for (int more = 13; more <= 15; more++) {
                NewRays x = ready();
                act(x, kind);
                for (int i = 0; i < more; i++) {
                    x.read(1, i % 2);
                }
                Due.is("in the row", x.count(7), 14);
                for (int i = 0; i < 14; i++) {
                    x.undo();
                }
                Due.is("no more", x.undo(), STATE);
                if (more < 15) {
                    Due.holds(kind + " and " + more + " more", shown(x).equals(more == 13 ? ahead : behind));
                } else {
                    Due.is("one reading is left too", x.reader(1, 3), 1);
                }
            }
        }
    }

    /** The call behind a full row can be undone as any other: each kind of act. */
    private static void theFifteenthIsUndone() {
        for (String kind : KINDS) {
            NewRays x = ready();
            for (int i = 0; i < 14; i++) {
                x.read(1, i % 2);
            }
            List<Integer> ahead = shown(x);
            act(x, kind);
            Due.holds(kind + " is done", !shown(x).equals(ahead));
            Due.is("in the row", x.count(7), 14);
            Due.is("undone", x.undo(), 13);
            Due.holds(kind + " is undone", shown(x).equals(ahead));
        }
    }

    /** Three times round, and back as far as the row goes. */
    private static void theRowGoesRound() {
        NewRays x = Due.room(ALL);
        for (int i = 0; i < 45; i++) {
            x.read(i % 5, i % 4);
        }
        for (int left = 13; left >= 0; left--) {
            Due.is("left", x.undo(), left);
        }
        int[] due = {7, 6, 6, 6, 6};
        for (int r = 0; r < 5; r++) {
            Due.is("readings of " + r + " behind 31 acts", x.reader(r, 3), due[r]);
        }
        Due.is("none", x.undo(), STATE);
        for (int i = 0; i < 14; i++) {
            x.tell();
        }
        Due.is("full again", x.count(7), 14);
        Due.is("undone", x.undo(), 13);
        Due.is("a new one", x.prism() + x.count(7), 14);
        Due.is("that is undone", x.undo(), 13);
        Due.is("in", x.count(3), 1);
    }

    /** "The last ACT is undone: how many are left. STATE: there is none." */
    private static void theLastOneIsUndone() {
        NewRays x = Due.room("ER010S1");
        Due.is("none", x.undo(), STATE);
        x.read(0, 0);
        x.prism();
        x.read(0, 0);
        Due.is("no paper by yes", x.sample(0, 2) * 10 + x.sample(0, 3), 1);
        Due.is("the second reading", x.undo(), 2);
        Due.is("the paper of the first", x.sample(0, 2) * 10 + x.sample(0, 3), 10);
        Due.is("readings", x.reader(0, 3), 1);
        Due.is("the prism", x.undo(), 1);
        Due.is("in", x.count(3), 1);
        Due.is("the first reading", x.undo(), 0);
        Due.is("no paper", x.count(5), 0);
        Due.is("none", x.undo(), STATE);
        Due.is("undoing is no act", x.count(7), 0);
    }

    /** A reading by which nothing is seen to change is an act too; what is only asked is none. */
    private static void actsThatShowNothing() {
        NewRays x = Due.room("ER013S0");
        for (int i = 0; i < 9; i++) {
            x.read(0, 0);
        }
        Due.is("acts", x.count(7), 9);
        x.read(0, 0);
        Due.is("a tenth act", x.count(7), 10);
        Due.is("undone", x.undo(), 9);
        Due.is("readings", x.reader(0, 3), 9);
        x.fault();
        x.fooled(0);
        x.truly(0);
        x.cover();
        x.wrong(true);
        x.judge(4, 60101010);
        x.hear(0, 0, 1, 1);
        x.expect(0);
        x.gone(0, 6, 111111, 63);
        x.share(0, true);
        x.flicker(0, 1, 5, true);
        x.winters(30);
        x.keep(0);
        x.write('E');
        x.wipe();
        x.unhear();
        x.seed(0);
        Due.is("no acts", x.count(7), 9);
        Due.is("undone", x.undo(), 8);
        Due.is("a reading", x.reader(0, 3), 8);
    }

    /** "SLOTS 0 to 1"; "STATE: none were kept". */
    private static void slots0To1() {
        NewRays x = Due.room("ER013S0");
        for (int slot : new int[] {Integer.MIN_VALUE, -1, 2, Integer.MAX_VALUE}) {
            Due.is("keep " + slot, x.keep(slot), UNKNOWN);
            Due.is("again " + slot, x.again(slot), UNKNOWN);
        }
        Due.is("again 0", x.again(0), STATE);
        Due.is("again 1", x.again(1), STATE);
        Due.is("keep 1", x.keep(1), 0);
        Due.is("again 0", x.again(0), STATE);
        Due.is("again 1", x.again(1), 0);
        x.read(0, 0);
        Due.is("keep 0", x.keep(0), 1);
        Due.is("again 1", x.again(1), 0);
        Due.is("readings", x.reader(0, 3), 0);
        Due.is("again 0", x.again(0), 1);
        Due.is("readings", x.reader(0, 3), 1);
        Due.is("again 0 once more", x.again(0), 1);
    }

    /** "(THE ROW of ACTS is empty when one goes on)"; what is kept: "PAPERS, READINGS, the PRISM, what is TOLD". */
    private static void emptyWhenOneGoesOn() {
        NewRays x = Due.room("ER010R013S1S0");
        x.read(0, 0);
        x.prism();
        x.tell();
        x.read(0, 1);
        x.keep(0);
        List<Integer> kept = shown(x);
        Due.is("keeping leaves the row", x.count(7), 4);
        for (int i = 0; i < 14; i++) {
            x.read(1, i % 2);
        }
        x.prism();
        x.tell();
        x.rest(0);
        x.withdraw(0, 0);
        x.hear(0, 0, 1, 1);
        x.seed(5);
        Due.is("again", x.again(0), 2);
        Due.holds("as they were kept", shown(x).equals(kept));
        Due.is("the row is empty", x.count(7), 0);
        Due.is("nothing to undo", x.undo(), STATE);
        Due.is("what is heard stays", x.count(8), 1);
        Due.is("the seed stays", x.seed(0), 5);
        x.prism();
        Due.is("one act", x.count(7), 1);
        Due.is("undone", x.undo(), 0);
        Due.holds("as they were kept", shown(x).equals(kept));
    }

    /** Kept over: the later one; a room made anew: "what was kept is gone"; one that is refused: it is not. */
    private static void keptOverAndGone() {
        NewRays x = Due.room("ER013S0");
        x.keep(0);
        x.read(0, 0);
        x.keep(0);
        x.withdraw(0, 0);
        Due.is("the later one", x.again(0), 1);
        x.write('X');
        Due.is("no room", x.room(), STATE);
        Due.is("still kept", x.again(0), 1);
        Due.write(x, "ER013S0");
        x.room();
        Due.is("gone", x.again(0), STATE);
        Due.is("kept anew", x.keep(0), 0);
        Due.is("again", x.again(0), 0);
        NewRays nobody = new NewRays();
        nobody.prism();
        Due.is("nothing is kept", nobody.keep(1), 0);
        nobody.prism();
        Due.is("again", nobody.again(1), 0);
        Due.is("out", nobody.count(3), 0);
    }

    /** Five readers on four samples: 20 papers, also through a slot. */
    private static void twentyPapers() {
        NewRays x = Due.room(ALL);
        for (int i = 0; i < 20; i++) {
            Due.is("papers", x.count(5), i);
            x.read(i / 4, i % 4);
        }
        Due.is("20 papers", x.count(5), 20);
        x.read(4, 3);
        Due.is("20 papers at most", x.count(5), 20);
        Due.is("keep", x.keep(1), 20);
        Due.is("withdraw", x.withdraw(4, 3), 1);
        Due.is("19", x.count(5), 19);
        Due.is("again", x.again(1), 20);
        Due.is("withdraw", x.withdraw(0, 0), 1);
        Due.is("19", x.keep(0), 19);
    }

    /** "A PAPER is RIGHT, if it says YES of a SAMPLE that is bright at all, or NO of one that is not." */
    private static void bothSidesOfRight() {
        String[] rooms = {"ER013S0", "ER013S1", "ER013S9", "ER990S0", "ER090S1", "ER090S8", "ER090S9"};
        int[] due = {0, 1, 1, 0, 0, 0, 1};
        for (int i = 0; i < rooms.length; i++) {
            NewRays x = Due.room(rooms[i]);
            Due.is("no paper in " + rooms[i], x.count(6), 0);
            x.read(0, 0);
            Due.is("right in " + rooms[i], x.count(6), due[i]);
            x.prism();
            x.tell();
            Due.is("right, the prism out, in " + rooms[i], x.count(6), due[i]);
        }
        Due.is("a no of what is not bright", rightAfterRead("ER010S0"), 1);
        Due.is("a no of what is 1 bright", rightAfterRead("ER020S1"), 0);
        NewRays all = Due.room("ER010R010R010R010R010S1S0S9S0");
        for (int i = 0; i < 20; i++) {
            all.read(i / 4, i % 4);
        }
        Due.is("20 are right", all.count(6), 20);
    }

    private static int rightAfterRead(String text) {
        NewRays x = Due.room(text);
        x.read(0, 0);
        return x.count(6);
    }

    /** "0 letters .. 8 HEARD. OUTSIDE": each at its most, and the first ones beyond. */
    private static void countsAtTheirMost() {
        NewRays x = Due.room("ER010R010R010R010R010S1S0S9S0");
        for (int i = 0; i < 7; i++) {
            x.write(255);
        }
        for (int i = 0; i < 20; i++) {
            x.read(i / 4, i % 4);
        }
        for (int i = 0; i < 6; i++) {
            x.hear(0, 0, 0, 0);
        }
        int[] due = {36, 5, 4, 1, 1, 20, 20, 14, 6};
        for (int what = 0; what < 9; what++) {
            Due.is("count " + what, x.count(what), due[what]);
        }
        for (int what : new int[] {Integer.MIN_VALUE, NONE, -1, 9, 10, Integer.MAX_VALUE}) {
            Due.is("count " + what, x.count(what), OUTSIDE);
        }
    }
}
