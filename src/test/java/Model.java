import java.math.BigInteger;
import java.util.ArrayList;
import java.util.HashMap;
import java.util.List;
import java.util.Map;
import java.util.regex.Pattern;

/**
 * The document once more, slow and told in another way than in NewRays: texts by patterns, papers in a
 * map, undoing by doing all again, shares by all orders, chances by all cases.
 */
final class Model {
    static final int UNKNOWN = -1, OUTSIDE = -2, STATE = -3, FULL = -4, NONE = -9;

    /** What can be kept. */
    static final class Now {
        Map<String, Boolean> papers = new HashMap<>();
        int[] readings = new int[5];
        boolean in = true;
        boolean told = true;

        Now copy() {
            Now other = new Now();
            other.papers.putAll(papers);
            other.readings = readings.clone();
            other.in = in;
            other.told = told;
            return other;
        }
    }

    private String text = "";
    private final List<int[]> readers = new ArrayList<>();
    private final List<Integer> samples = new ArrayList<>();
    private Now now = new Now();
    /** The state ahead of the first act that is still remembered, and the acts since then. */
    private Now base = new Now();
    private final List<String> row = new ArrayList<>();
    private final List<int[]> heard = new ArrayList<>();
    private final Now[] slots = new Now[2];
    private long seed = 0;

    int write(int letter) {
        if (letter < 0 || letter > 255) {
            return OUTSIDE;
        }
        if (text.length() >= 36) {
            return FULL;
        }
        text += (char) letter;
        return text.length();
    }

    int wipe() {
        int was = text.length();
        text = "";
        return was;
    }

    private static boolean isRoom(String t) {
        return Pattern.matches("E(R[0-9][1-9][0-3]|S[0-9])*", t)
            && t.chars().filter(c -> c == 'R').count() <= 5 && t.chars().filter(c -> c == 'S').count() <= 4;
    }

    /** Whether something behind it could make it a room: only a part can be missing. */
    private static boolean canBecome(String t) {
        for (String tail : new String[] {"", "E", "010", "10", "0"}) {
            if (isRoom(t + tail)) {
                return true;
            }
        }
        return false;
    }

    int fault() {
        for (int i = 1; i <= text.length(); i++) {
            if (!canBecome(text.substring(0, i))) {
                return i - 1;
            }
        }
        return isRoom(text) ? NONE : text.length();
    }

    int room() {
        if (!isRoom(text)) {
            return STATE;
        }
        readers.clear();
        samples.clear();
        for (String part : text.substring(1).split("(?=[RS])")) {
            if (part.startsWith("R")) {
                readers.add(new int[] {part.charAt(1) - 48, part.charAt(2) - 48, part.charAt(3) - 48});
            } else if (part.startsWith("S")) {
                samples.add(part.charAt(1) - 48);
            }
        }
        now = new Now();
        goOn();
        slots[0] = null;
        slots[1] = null;
        return readers.size() * 10 + samples.size();
    }

    private void goOn() {
        base = now.copy();
        row.clear();
    }

    private boolean isReader(int r) {
        return r >= 0 && r < readers.size();
    }

    private boolean isSample(int s) {
        return s >= 0 && s < samples.size();
    }

    private int shine(int r, int s, int e, int readings, boolean in, boolean told) {
        int kind = readers.get(r)[2];
        int light = (in ? samples.get(s) : 0) + (told ? e + (kind == 1 && e != 0 ? 2 : 0) : 0);
        return kind != 2 ? light : Math.max(0, light - readings / 2);
    }

    private boolean yes(int r, int light) {
        return readers.get(r)[2] == 3 || light >= readers.get(r)[1];
    }

    private boolean yesOn(Now n, int r, int s) {
        return yes(r, shine(r, s, readers.get(r)[0], n.readings[r], n.in, n.told));
    }

    private boolean right(int r, int s) {
        return yesOn(now, r, s) == samples.get(s) > 0;
    }

    int reader(int r, int what) {
        if (!isReader(r)) {
            return UNKNOWN;
        }
        if (what < 0 || what > 3) {
            return OUTSIDE;
        }
        return what == 3 ? now.readings[r] : readers.get(r)[what];
    }

    int sample(int s, int what) {
        if (!isSample(s)) {
            return UNKNOWN;
        }
        if (what < 0 || what > 3) {
            return OUTSIDE;
        }
        if (what == 0) {
            return samples.get(s);
        }
        int bits = 0;
        for (int r = readers.size() - 1; r >= 0; r--) {
            Boolean paper = now.papers.get(r + "/" + s);
            boolean set = what == 1 ? yesOn(now, r, s) : paper != null && paper == (what == 2);
            bits = 2 * bits + (set ? 1 : 0);
        }
        return bits;
    }

    int bright(int r, int s) {
        if (!isReader(r) || !isSample(s)) {
            return UNKNOWN;
        }
        return shine(r, s, readers.get(r)[0], now.readings[r], now.in, now.told);
    }

    /** Does an act on a state: P, T, "r s" as read, "R r", "W r s". */
    private void apply(Now n, String act) {
        String[] word = act.split(" ");
        switch (word[0]) {
            case "P": n.in = !n.in; break;
            case "T": n.told = !n.told; break;
            case "R": n.readings[Integer.parseInt(word[1])] = 0; break;
            case "W": n.papers.remove(word[1] + "/" + word[2]); break;
            default:
                int r = Integer.parseInt(word[0]);
                n.papers.put(word[0] + "/" + word[1], yesOn(n, r, Integer.parseInt(word[1])));
                n.readings[r] = Math.min(9, n.readings[r] + 1);
        }
    }

    private void act(String act) {
        row.add(act);
        apply(now, act);
        if (row.size() > 14) {
            apply(base, row.remove(0));
        }
    }

    int read(int r, int s) {
        if (!isReader(r) || !isSample(s)) {
            return UNKNOWN;
        }
        act(r + " " + s);
        return now.papers.get(r + "/" + s) ? 1 : 0;
    }

    int rest(int r) {
        if (!isReader(r)) {
            return UNKNOWN;
        }
        int had = now.readings[r];
        if (had == 0) {
            return STATE;
        }
        act("R " + r);
        return had;
    }

    int withdraw(int r, int s) {
        if (!isReader(r) || !isSample(s)) {
            return UNKNOWN;
        }
        Boolean was = now.papers.get(r + "/" + s);
        if (was == null) {
            return STATE;
        }
        act("W " + r + " " + s);
        return was ? 1 : 0;
    }

    int prism() {
        act("P");
        return now.in ? 1 : 0;
    }

    int tell() {
        act("T");
        return now.told ? 1 : 0;
    }

    int undo() {
        if (row.isEmpty()) {
            return STATE;
        }
        row.remove(row.size() - 1);
        now = base.copy();
        for (String act : row) {
            apply(now, act);
        }
        return row.size();
    }

    private boolean yesIf(int r, int s, boolean in, boolean told) {
        Now other = now.copy();
        other.in = in;
        other.told = told;
        return yesOn(other, r, s);
    }

    int fooled(int s) {
        if (!isSample(s)) {
            return UNKNOWN;
        }
        int bits = 0;
        for (int r = 0; r < readers.size(); r++) {
            bits += yesIf(r, s, false, true) ? 1 << r : 0;
        }
        return bits;
    }

    int truly(int s) {
        if (!isSample(s)) {
            return UNKNOWN;
        }
        int bits = 0;
        for (int r = 0; r < readers.size(); r++) {
            bits += yesIf(r, s, true, false) && !yesIf(r, s, false, false) ? 1 << r : 0;
        }
        return bits;
    }

    private boolean covers(int set) {
        for (int s = 0; s < samples.size(); s++) {
            boolean some = false;
            for (int r = 0; r < readers.size(); r++) {
                some |= (set >> r & 1) == 1 && yesOn(now, r, s);
            }
            if (some != samples.get(s) > 0) {
                return false;
            }
        }
        return true;
    }

    int cover() {
        for (int size = 0; size <= readers.size(); size++) {
            for (int set = 0; set < 1 << readers.size(); set++) {
                if (Integer.bitCount(set) == size && covers(set)) {
                    return set;
                }
            }
        }
        return NONE;
    }

    int wrong(boolean which) {
        int bits = 0;
        int many = 0;
        for (int s = 0; s < samples.size(); s++) {
            int balance = 0;
            for (int r = 0; r < 5; r++) {
                Boolean paper = now.papers.get(r + "/" + s);
                balance += paper == null ? 0 : paper ? 1 : -1;
            }
            boolean wrongSay = balance <= 0;
            for (int r = 0; r < 5; r++) {
                Boolean paper = now.papers.get(r + "/" + s);
                if (paper != null && paper == wrongSay) {
                    bits += 1 << 4 * r + s;
                    many++;
                }
            }
        }
        return which ? bits : many;
    }

    /** The figures of a row, with zeros ahead; null if they are more. */
    private static int[] figures(int row, int n) {
        String told = Integer.toString(row);
        if (row < 0 || told.length() > n) {
            return null;
        }
        return ("0".repeat(n - told.length()) + told).chars().map(c -> c - 48).toArray();
    }

    int judge(int n, int doings) {
        if (n < 1 || n > 4 || figures(doings, 2 * n) == null) {
            return OUTSIDE;
        }
        int[] told = figures(doings, 2 * n);
        Now then = now.copy();
        for (int i = 0; i < n; i++) {
            int a = told[2 * i];
            int b = told[2 * i + 1];
            if (a == 0 && b < 2) {
                apply(then, b == 0 ? "P" : "T");
            } else if (a >= 1 && a <= 5 && isReader(a - 1) && isSample(b)) {
                if (samples.get(b) == 0 && yesOn(then, a - 1, b)) {
                    return i;
                }
                apply(then, (a - 1) + " " + b);
            } else if (a == 6 && isReader(b) && then.readings[b] > 0) {
                apply(then, "R " + b);
            } else {
                return i;
            }
        }
        return NONE;
    }

    int hear(int r, int s, int prism, int yes) {
        if (!isReader(r) || !isSample(s)) {
            return UNKNOWN;
        }
        if ((prism & ~1) != 0 || (yes & ~1) != 0) {
            return OUTSIDE;
        }
        if (heard.size() == 6) {
            return FULL;
        }
        heard.add(new int[] {r, s, prism, yes});
        return heard.size();
    }

    int unhear() {
        int was = heard.size();
        heard.clear();
        return was;
    }

    int expect(int r) {
        if (!isReader(r)) {
            return UNKNOWN;
        }
        int bits = 1023;
        for (int[] h : heard) {
            for (int e = 0; e < 10 && h[0] == r && isSample(h[1]); e++) {
                if (yes(r, shine(r, h[1], e, 0, h[2] == 1, true)) != (h[3] == 1)) {
                    bits &= ~(1 << e);
                }
            }
        }
        return bits;
    }

    int gone(int r, int n, int order, int said) {
        if (!isReader(r)) {
            return UNKNOWN;
        }
        if (n < 1 || n > 6 || figures(order, n) == null || said < 0 || said >> n != 0) {
            return OUTSIDE;
        }
        int[] told = figures(order, n);
        for (int figure : told) {
            if (figure == 0 || !isSample(figure - 1)) {
                return STATE;
            }
        }
        int bits = 0;
        for (int from = 0; from <= n; from++) {
            Now then = new Now();
            boolean so = true;
            for (int i = 0; i < n; i++) {
                then.in = i < from;
                apply(then, r + " " + (told[i] - 1));
                so &= then.papers.get(r + "/" + (told[i] - 1)) == ((said >> i & 1) == 1);
            }
            bits += so ? 1 << from : 0;
        }
        return bits;
    }

    private static int told(long above, long below, boolean upper) {
        long common = BigInteger.valueOf(above).gcd(BigInteger.valueOf(below)).longValue();
        return (int) ((upper ? above : below) / common);
    }

    private int worth(List<Integer> come) {
        int many = 0;
        for (int s = 0; s < samples.size(); s++) {
            int balance = 0;
            for (int r : come) {
                balance += right(r, s) ? 1 : -1;
            }
            many += balance > 0 ? 1 : 0;
        }
        return many;
    }

    /** Sums over all orders that go on from these; adds the orders to cases[0]. */
    private long gains(List<Integer> come, int whose, long[] cases) {
        if (come.size() == readers.size()) {
            cases[0]++;
            return worth(come.subList(0, come.indexOf(whose) + 1)) - worth(come.subList(0, come.indexOf(whose)));
        }
        long sum = 0;
        for (int r = 0; r < readers.size(); r++) {
            if (!come.contains(r)) {
                List<Integer> more = new ArrayList<>(come);
                more.add(r);
                sum += gains(more, whose, cases);
            }
        }
        return sum;
    }

    int share(int r, boolean upper) {
        if (!isReader(r)) {
            return UNKNOWN;
        }
        long[] cases = {0};
        long sum = gains(new ArrayList<>(), r, cases);
        return told(sum, cases[0], upper);
    }

    /** What one has of two, by choices and what they say. */
    private int[] paid(int a, int b, int one, int other, int s) {
        int[] pay = {0, 0};
        if (a == 1 && b == 1) {
            boolean same = yesOn(now, one, s) == yesOn(now, other, s);
            pay[0] = same ? 1 : right(one, s) ? 3 : -3;
            pay[1] = same ? 1 : right(other, s) ? 3 : -3;
        } else if (a == 1) {
            pay[0] = right(one, s) ? 2 : -1;
        } else if (b == 1) {
            pay[1] = right(other, s) ? 2 : -1;
        }
        return pay;
    }

    int rests(int one, int other, int s, int what) {
        if (!isReader(one) || !isReader(other) || !isSample(s)) {
            return UNKNOWN;
        }
        if (one == other || what != 0 && what != 1) {
            return OUTSIDE;
        }
        List<Integer> pairs = new ArrayList<>();
        for (int pair : new int[] {0, 1, 10, 11}) {
            int a = pair / 10;
            int b = pair % 10;
            int[] pay = paid(a, b, one, other, s);
            if (pay[0] >= paid(1 - a, b, one, other, s)[0] && pay[1] >= paid(a, 1 - b, one, other, s)[1]) {
                pairs.add(pair);
            }
        }
        return what == 0 ? pairs.size() : pairs.isEmpty() ? NONE : pairs.get(0);
    }

    int flicker(int s, int m, int x, boolean upper) {
        if (!isSample(s)) {
            return UNKNOWN;
        }
        if (m < 0 || m > 5 || x < 0 || x > 10) {
            return OUTSIDE;
        }
        long sum = 0;
        long all = 1;
        for (int r = 0; r < readers.size(); r++) {
            all *= 10;
        }
        for (int flare = 0; flare < 1 << readers.size(); flare++) {
            int say = 0;
            long cases = 1;
            for (int r = 0; r < readers.size(); r++) {
                int more = flare >> r & 1;
                cases *= more == 1 ? x : 10 - x;
                say += yes(r, bright(r, s) + more) ? 1 : 0;
            }
            sum += say >= m ? cases : 0;
        }
        return told(sum, all, upper);
    }

    long seed(long v) {
        long was = seed;
        seed = v;
        return was;
    }

    private int rightOn(Now n) {
        int many = 0;
        for (Map.Entry<String, Boolean> paper : n.papers.entrySet()) {
            many += paper.getValue() == samples.get(paper.getKey().charAt(2) - 48) > 0 ? 1 : 0;
        }
        return many;
    }

    int winters(int m) {
        if (m < 1 || m > 30) {
            return OUTSIDE;
        }
        Now then = now.copy();
        for (int i = 0; i < m; i++) {
            seed = seed * 6364136223846793005L + 1442695040888963407L;
            long left = Long.remainderUnsigned(Long.divideUnsigned(seed, 1L << 33), 22);
            if (left >= 20) {
                apply(then, left == 20 ? "P" : "T");
            } else if (isReader((int) left / 4) && isSample((int) left % 4)) {
                apply(then, left / 4 + " " + left % 4);
            }
        }
        return rightOn(then);
    }

    int keep(int slot) {
        if (slot != 0 && slot != 1) {
            return UNKNOWN;
        }
        slots[slot] = now.copy();
        return now.papers.size();
    }

    int again(int slot) {
        if (slot != 0 && slot != 1) {
            return UNKNOWN;
        }
        if (slots[slot] == null) {
            return STATE;
        }
        now = slots[slot].copy();
        goOn();
        return now.papers.size();
    }

    int count(int what) {
        int[] all = {text.length(), readers.size(), samples.size(), now.in ? 1 : 0, now.told ? 1 : 0,
            now.papers.size(), rightOn(now), row.size(), heard.size()};
        return what < 0 || what >= all.length ? OUTSIDE : all[what];
    }
}
