import java.util.ArrayList;
import java.util.List;

/**
 * "REFUSALS, of several the first that a call names", "What is refused changes nothing", "refusals of
 * (fractions) are told likewise": each refused call, by the first number on each side that is not taken,
 * on an object whose twin was not asked; behind it the two must look alike in all that can be seen.
 */
public final class RefusalTest {
    private static final int UNKNOWN = -1, OUTSIDE = -2, STATE = -3, FULL = -4;
    private static final int MIN = Integer.MIN_VALUE, MAX = Integer.MAX_VALUE;
    private static final int[] NO_READER = {MIN, -32, -1, 5, 6, 32, MAX};
    private static final int[] NO_SAMPLE = {MIN, -32, -1, 4, 5, 32, MAX};
    private static final int[] NO_SLOT = {MIN, -32, -1, 2, 3, 32, MAX};
    private static final int[] NO_WHAT = {MIN, -1, 4, 5, MAX};
    private static final int[] NO_BIT = {MIN, -1, 2, 3, MAX};
    private static final boolean[] BOTH = {true, false};

    interface Call {
        long on(NewRays x);
    }

    interface State {
        NewRays made();
    }

    private static int objects = 0;

    public static void main(String[] args) {
        aNewObject();
        aBareRoom();
        theText();
        lookingAtTheRoom();
        acts();
        whoSaysWhat();
        heard();
        goneByUnknown();
        goneByOutside();
        goneByState();
        shareAndFlicker();
        rests();
        wintersAndSlots();
        Due.holds("refusals were tried: " + objects, objects > 400);
        Due.end();
    }

    /** Nobody, nothing. */
    private static NewRays fresh() {
        return new NewRays();
    }

    /** A room in which nothing was done. */
    private static NewRays bare() {
        return Due.room("ER052R010S5S0");
    }

    /** All rows full: 36 letters with a fault, 5 readers, 4 samples, 14 acts, 6 heard; slot 1 was not kept. */
    private static NewRays full() {
        NewRays x = Due.room("ER341R652R250R193R452S5S0S3S0");
        for (int i = 0; i < 7; i++) {
            x.write('S');
        }
        for (int i = 0; i < 6; i++) {
            x.hear(i % 5, i % 4, i % 2, i % 3 % 2);
        }
        x.seed(-77);
        x.read(2, 2);
        x.read(0, 1);
        x.keep(0);
        x.prism();
        for (int i = 0; i < 16; i++) {
            x.read(i % 4, i % 3);
        }
        x.tell();
        x.withdraw(2, 2);
        x.rest(3);
        x.read(1, 0);
        return x;
    }

    /** All that can be seen of an object, the row of acts and the slots by going back in them. */
    static List<Long> look(NewRays x) {
        List<Long> seen = new ArrayList<>();
        for (int what = 0; what < 9; what++) {
            seen.add((long) x.count(what));
        }
        seen.add((long) x.fault());
        for (int r = 0; r < 5; r++) {
            for (int what = 0; what < 4; what++) {
                seen.add((long) x.reader(r, what));
                seen.add((long) x.bright(r, what));
            }
            seen.add((long) x.expect(r));
        }
        papers(x, seen);
        while (x.count(7) > 0) {
            seen.add((long) x.undo());
            papers(x, seen);
        }
        for (int slot = 0; slot < 2; slot++) {
            seen.add((long) x.again(slot));
            papers(x, seen);
        }
        seen.add(x.seed(0));
        seen.add((long) x.room());
        return seen;
    }

    private static void papers(NewRays x, List<Long> seen) {
        seen.add((long) x.count(3) * 2 + x.count(4));
        for (int s = 0; s < 4; s++) {
            seen.add((long) x.sample(s, 2) * 32 + x.sample(s, 3));
        }
        for (int r = 0; r < 5; r++) {
            seen.add((long) x.reader(r, 3));
        }
    }

    private static void refused(State state, String name, int due, Call call) {
        objects++;
        NewRays x = state.made();
        Due.is(name, call.on(x), due);
        Due.holds(name + " changes nothing", look(x).equals(look(state.made())));
    }

    private static void refused(String name, int due, Call call) {
        refused(RefusalTest::full, name, due, call);
    }

    private static void aNewObject() {
        State s = RefusalTest::fresh;
        refused(s, "new: write -1", OUTSIDE, x -> x.write(-1));
        refused(s, "new: write 256", OUTSIDE, x -> x.write(256));
        refused(s, "new: room", STATE, x -> x.room());
        refused(s, "new: undo", STATE, x -> x.undo());
        refused(s, "new: rest 0", UNKNOWN, x -> x.rest(0));
        refused(s, "new: read 0 0", UNKNOWN, x -> x.read(0, 0));
        refused(s, "new: withdraw 0 0", UNKNOWN, x -> x.withdraw(0, 0));
        refused(s, "new: bright 0 0", UNKNOWN, x -> x.bright(0, 0));
        refused(s, "new: reader 0 0", UNKNOWN, x -> x.reader(0, 0));
        refused(s, "new: reader 0 4", UNKNOWN, x -> x.reader(0, 4));
        refused(s, "new: sample 0 0", UNKNOWN, x -> x.sample(0, 0));
        refused(s, "new: sample 0 4", UNKNOWN, x -> x.sample(0, 4));
        refused(s, "new: fooled 0", UNKNOWN, x -> x.fooled(0));
        refused(s, "new: truly 0", UNKNOWN, x -> x.truly(0));
        refused(s, "new: judge 0 0", OUTSIDE, x -> x.judge(0, 0));
        refused(s, "new: hear 0 0 2 2", UNKNOWN, x -> x.hear(0, 0, 2, 2));
        refused(s, "new: expect 0", UNKNOWN, x -> x.expect(0));
        refused(s, "new: gone 0 0 0 0", UNKNOWN, x -> x.gone(0, 0, 0, 0));
        refused(s, "new: rests 0 0 0 0", UNKNOWN, x -> x.rests(0, 0, 0, 0));
        for (boolean upper : BOTH) {
            refused(s, "new: share 0", UNKNOWN, x -> x.share(0, upper));
            refused(s, "new: flicker 0 6 11", UNKNOWN, x -> x.flicker(0, 6, 11, upper));
        }
        refused(s, "new: winters 0", OUTSIDE, x -> x.winters(0));
        refused(s, "new: again 0", STATE, x -> x.again(0));
        refused(s, "new: again 1", STATE, x -> x.again(1));
        refused(s, "new: again 2", UNKNOWN, x -> x.again(2));
        refused(s, "new: keep 2", UNKNOWN, x -> x.keep(2));
        refused(s, "new: count 9", OUTSIDE, x -> x.count(9));
    }

    private static void aBareRoom() {
        State s = RefusalTest::bare;
        refused(s, "bare: rest 0", STATE, x -> x.rest(0));
        refused(s, "bare: rest 1", STATE, x -> x.rest(1));
        refused(s, "bare: rest 2", UNKNOWN, x -> x.rest(2));
        for (int r = 0; r < 2; r++) {
            for (int a = 0; a < 2; a++) {
                int reader = r;
                int sample = a;
                refused(s, "bare: withdraw " + r + " " + a, STATE, x -> x.withdraw(reader, sample));
            }
        }
        refused(s, "bare: withdraw 2 0", UNKNOWN, x -> x.withdraw(2, 0));
        refused(s, "bare: withdraw 0 2", UNKNOWN, x -> x.withdraw(0, 2));
        refused(s, "bare: read 2 0", UNKNOWN, x -> x.read(2, 0));
        refused(s, "bare: read 0 2", UNKNOWN, x -> x.read(0, 2));
        refused(s, "bare: undo", STATE, x -> x.undo());
        refused(s, "bare: hear 2 0", UNKNOWN, x -> x.hear(2, 0, 0, 0));
        refused(s, "bare: hear 0 2", UNKNOWN, x -> x.hear(0, 2, 0, 0));
        refused(s, "bare: hear 0 0 2 0", OUTSIDE, x -> x.hear(0, 0, 2, 0));
        refused(s, "bare: hear 0 0 0 2", OUTSIDE, x -> x.hear(0, 0, 0, 2));
        refused(s, "bare: again 0", STATE, x -> x.again(0));
        refused(s, "bare: again 1", STATE, x -> x.again(1));
        refused(s, "bare: gone, sample 3 of 2", STATE, x -> x.gone(0, 1, 3, 0));
    }

    private static void theText() {
        for (int letter : new int[] {MIN, -256, -1, 256, 257, 69 + 256, MAX}) {
            refused("outside and full: write " + letter, OUTSIDE, x -> x.write(letter));
        }
        for (int letter : new int[] {0, 69, 255}) {
            refused("full: write " + letter, FULL, x -> x.write(letter));
        }
        refused("room of a fault", STATE, x -> x.room());
    }

    private static void lookingAtTheRoom() {
        for (int r : NO_READER) {
            refused("reader " + r, UNKNOWN, x -> x.reader(r, 0));
            refused("unknown and outside: reader " + r, UNKNOWN, x -> x.reader(r, 4));
            refused("bright " + r + " 0", UNKNOWN, x -> x.bright(r, 0));
            refused("bright " + r + " 4", UNKNOWN, x -> x.bright(r, 4));
        }
        for (int s : NO_SAMPLE) {
            refused("sample " + s, UNKNOWN, x -> x.sample(s, 0));
            refused("unknown and outside: sample " + s, UNKNOWN, x -> x.sample(s, -1));
            refused("bright 4 " + s, UNKNOWN, x -> x.bright(4, s));
        }
        for (int what : NO_WHAT) {
            refused("reader 0, what " + what, OUTSIDE, x -> x.reader(0, what));
            refused("reader 4, what " + what, OUTSIDE, x -> x.reader(4, what));
            refused("sample 0, what " + what, OUTSIDE, x -> x.sample(0, what));
            refused("sample 3, what " + what, OUTSIDE, x -> x.sample(3, what));
        }
        for (int what : new int[] {MIN, -9, -1, 9, 10, MAX}) {
            refused("count " + what, OUTSIDE, x -> x.count(what));
        }
    }

    private static void acts() {
        for (int r : NO_READER) {
            refused("read " + r + " 0", UNKNOWN, x -> x.read(r, 0));
            refused("read " + r + " -1", UNKNOWN, x -> x.read(r, -1));
            refused("rest " + r, UNKNOWN, x -> x.rest(r));
            refused("withdraw " + r + " 0", UNKNOWN, x -> x.withdraw(r, 0));
            refused("withdraw " + r + " 4", UNKNOWN, x -> x.withdraw(r, 4));
        }
        for (int s : NO_SAMPLE) {
            refused("read 0 " + s, UNKNOWN, x -> x.read(0, s));
            refused("read 4 " + s, UNKNOWN, x -> x.read(4, s));
            refused("withdraw 0 " + s, UNKNOWN, x -> x.withdraw(0, s));
            refused("withdraw 4 " + s, UNKNOWN, x -> x.withdraw(4, s));
        }
        refused("rest of one that has rested", STATE, x -> x.rest(3));
        refused("rest of one that never read", STATE, x -> x.rest(4));
        refused("withdraw what was withdrawn", STATE, x -> x.withdraw(2, 2));
        refused("withdraw what was never printed", STATE, x -> x.withdraw(4, 3));
    }

    private static void whoSaysWhat() {
        for (int s : NO_SAMPLE) {
            refused("fooled " + s, UNKNOWN, x -> x.fooled(s));
            refused("truly " + s, UNKNOWN, x -> x.truly(s));
        }
        for (int n : new int[] {MIN, -1, 0, 5, 6, MAX}) {
            refused("judge " + n + " 0", OUTSIDE, x -> x.judge(n, 0));
            refused("judge " + n + " -1", OUTSIDE, x -> x.judge(n, -1));
        }
        int[] tooLong = {100, 10000, 1000000, 100000000};
        for (int n = 1; n <= 4; n++) {
            int doings = n;
            for (int row : new int[] {MIN, -1, tooLong[n - 1], tooLong[n - 1] + 1, MAX}) {
                refused("judge " + n + " " + row, OUTSIDE, x -> x.judge(doings, row));
            }
        }
    }

    private static void heard() {
        for (int r : NO_READER) {
            refused("unknown and full: hear " + r, UNKNOWN, x -> x.hear(r, 0, 1, 1));
            refused("unknown, outside and full: hear " + r, UNKNOWN, x -> x.hear(r, 0, 2, -1));
            refused("expect " + r, UNKNOWN, x -> x.expect(r));
        }
        for (int s : NO_SAMPLE) {
            refused("unknown and full: hear 0 " + s, UNKNOWN, x -> x.hear(0, s, 1, 1));
            refused("unknown, outside and full: hear 0 " + s, UNKNOWN, x -> x.hear(0, s, -1, 2));
        }
        for (int bit : NO_BIT) {
            refused("outside and full: hear, prism " + bit, OUTSIDE, x -> x.hear(4, 3, bit, 1));
            refused("outside and full: hear, yes " + bit, OUTSIDE, x -> x.hear(4, 3, 0, bit));
            refused("outside and full: hear, both " + bit, OUTSIDE, x -> x.hear(4, 3, bit, bit));
        }
        refused("full: hear", FULL, x -> x.hear(4, 3, 1, 1));
        refused("full: hear what was heard", FULL, x -> x.hear(0, 0, 0, 0));
    }

    private static void goneByUnknown() {
        for (int r : NO_READER) {
            refused("gone " + r, UNKNOWN, x -> x.gone(r, 1, 1, 0));
            refused("unknown and outside: gone " + r + ", n", UNKNOWN, x -> x.gone(r, 0, 1, 0));
            refused("unknown and outside: gone " + r + ", row", UNKNOWN, x -> x.gone(r, 1, -1, 0));
            refused("unknown and outside: gone " + r + ", said", UNKNOWN, x -> x.gone(r, 1, 1, 2));
            refused("unknown and state: gone " + r, UNKNOWN, x -> x.gone(r, 1, 5, 0));
        }
    }

    private static void goneByOutside() {
        for (int n : new int[] {MIN, -1, 0, 7, 8, 32, MAX}) {
            refused("gone, n " + n, OUTSIDE, x -> x.gone(0, n, 1, 0));
            refused("gone, n " + n + ", row 0", OUTSIDE, x -> x.gone(0, n, 0, 0));
            refused("outside and state: gone, n " + n, OUTSIDE, x -> x.gone(0, n, 9, 0));
        }
        int[] ones = {0, 1, 11, 111, 1111, 11111, 111111};
        int[] tens = {1, 10, 100, 1000, 10000, 100000, 1000000};
        for (int many = 1; many <= 6; many++) {
            int n = many;
            for (int row : new int[] {MIN, -1, tens[n], tens[n] + ones[n], MAX}) {
                refused("gone " + n + ", row " + row, OUTSIDE, x -> x.gone(0, n, row, 0));
            }
            for (int said : new int[] {MIN, -1, 1 << n, (1 << n) + 1, MAX}) {
                refused("gone " + n + ", said " + said, OUTSIDE, x -> x.gone(0, n, ones[n], said));
                refused("outside and state: gone " + n + ", said " + said, OUTSIDE, x -> x.gone(0, n, 0, said));
            }
        }
    }

    private static void goneByState() {
        for (int figure : new int[] {0, 5, 6, 9}) {
            refused("gone, figure " + figure, STATE, x -> x.gone(0, 1, figure, 0));
            refused("gone, first figure " + figure, STATE, x -> x.gone(0, 6, figure * 100000 + 11111, 63));
            refused("gone, figure " + figure + " inside", STATE, x -> x.gone(4, 3, 104 + figure * 10, 0));
            refused("gone, last figure " + figure, STATE, x -> x.gone(4, 6, 432110 + figure, 0));
        }
    }

    private static void shareAndFlicker() {
        for (boolean upper : BOTH) {
            for (int r : NO_READER) {
                refused("share " + r + " " + upper, UNKNOWN, x -> x.share(r, upper));
            }
            for (int s : NO_SAMPLE) {
                refused("flicker " + s + " " + upper, UNKNOWN, x -> x.flicker(s, 0, 0, upper));
                refused("unknown and outside: flicker " + s + ", m", UNKNOWN, x -> x.flicker(s, 6, 0, upper));
                refused("unknown and outside: flicker " + s + ", x", UNKNOWN, x -> x.flicker(s, 0, 11, upper));
            }
            for (int m : new int[] {MIN, -1, 6, 7, MAX}) {
                refused("flicker, m " + m + " " + upper, OUTSIDE, x -> x.flicker(3, m, 10, upper));
            }
            for (int tenths : new int[] {MIN, -1, 11, 12, MAX}) {
                refused("flicker, x " + tenths + " " + upper, OUTSIDE, x -> x.flicker(3, 5, tenths, upper));
            }
        }
    }

    private static void rests() {
        for (int r : NO_READER) {
            refused("rests " + r + " 0", UNKNOWN, x -> x.rests(r, 0, 0, 0));
            refused("rests 0 " + r, UNKNOWN, x -> x.rests(0, r, 0, 0));
            refused("unknown and one: rests " + r + " " + r, UNKNOWN, x -> x.rests(r, r, 0, 0));
            refused("unknown and outside: rests 0 " + r + ", what", UNKNOWN, x -> x.rests(0, r, 0, 2));
        }
        for (int s : NO_SAMPLE) {
            refused("rests 0 1 " + s, UNKNOWN, x -> x.rests(0, 1, s, 0));
            refused("unknown and one: rests 0 0 " + s, UNKNOWN, x -> x.rests(0, 0, s, 0));
            refused("unknown and outside: rests 0 1 " + s + ", what", UNKNOWN, x -> x.rests(0, 1, s, -1));
        }
        for (int one = 0; one < 5; one++) {
            int r = one;
            refused("both are " + r, OUTSIDE, x -> x.rests(r, r, 3, 0));
            refused("both are " + r + ", the first", OUTSIDE, x -> x.rests(r, r, 3, 1));
        }
        for (int what : NO_BIT) {
            refused("rests, what " + what, OUTSIDE, x -> x.rests(3, 4, 3, what));
        }
    }

    private static void wintersAndSlots() {
        for (int m : new int[] {MIN, -1, 0, 31, 32, MAX}) {
            refused("winters " + m, OUTSIDE, x -> x.winters(m));
        }
        for (int slot : NO_SLOT) {
            refused("keep " + slot, UNKNOWN, x -> x.keep(slot));
            refused("again " + slot, UNKNOWN, x -> x.again(slot));
        }
        refused("again of the slot that was not kept", STATE, x -> x.again(1));
    }
}
