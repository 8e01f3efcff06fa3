import java.util.Random;

/** Runs of calls by chance (the seeds are fixed), in which NewRays must answer as the model does. */
public final class ModelTest {
    private static final int RUNS = 1000;
    private static final int CALLS = 480;
    private static final int[] ODD = {Integer.MIN_VALUE, -10, -1, 6, 7, 10, 99, Integer.MAX_VALUE};

    private final Random by;
    private final NewRays x = new NewRays();
    private final Model y = new Model();
    private final String name;
    private int calls = 0;

    private ModelTest(int run) {
        by = new Random(run);
        name = "run " + run;
    }

    public static void main(String[] args) {
        for (int run = 0; run < RUNS && Due.wrong() < 20; run++) {
            new ModelTest(run).go();
        }
        Due.end();
    }

    private void go() {
        String last = "";
        while (calls < CALLS && Due.wrong() < 20) {
            calls++;
            if (by.nextInt(60) == 0 || calls == 1) {
                String text = by.nextInt(3) == 0 ? spoiled(roomText()) : roomText();
                retell(text);
                last = text;
            } else {
                step(last);
            }
        }
    }

    private void due(String call, long got, long want) {
        Due.is(name + ", call " + calls + ": " + call, got, want);
    }

    private void retell(String text) {
        due("wipe", x.wipe(), y.wipe());
        for (int i = 0; i < text.length(); i++) {
            calls++;
            due("write", x.write(text.charAt(i)), y.write(text.charAt(i)));
            if (by.nextInt(8) == 0) {
                due("fault on the way in " + text, x.fault(), y.fault());
            }
        }
        due("fault of " + text, x.fault(), y.fault());
        due("room of " + text, x.room(), y.room());
    }

    private String roomText() {
        int readers = by.nextInt(4) == 0 ? by.nextInt(6) : 3 + by.nextInt(3);
        int samples = by.nextInt(4) == 0 ? by.nextInt(5) : 2 + by.nextInt(3);
        boolean faint = by.nextInt(2) == 0;
        StringBuilder text = new StringBuilder("E");
        while (readers + samples > 0) {
            if (by.nextInt(readers + samples) < readers) {
                readers--;
                text.append('R').append(faint ? by.nextInt(4) : by.nextInt(10));
                text.append(1 + by.nextInt(faint ? 5 : 9)).append(by.nextInt(4));
            } else {
                samples--;
                text.append('S').append(by.nextInt(3) == 0 ? 0 : by.nextInt(faint ? 5 : 10));
            }
        }
        return text.toString();
    }

    private String spoiled(String text) {
        StringBuilder s = new StringBuilder(text);
        int at = by.nextInt(s.length());
        switch (by.nextInt(5)) {
            case 0: s.setLength(at); break;
            case 1: s.setCharAt(at, (char) by.nextInt(256)); break;
            case 2: s.setCharAt(at, "ERS0123456789".charAt(by.nextInt(13))); break;
            case 3: s.insert(at, "ERS0123456789".charAt(by.nextInt(13))); break;
            default: s.append("R010S0R010S0");
        }
        return s.toString();
    }

    /** Mostly a number below n, now and then one that is far off. */
    private int some(int n) {
        return by.nextInt(25) == 0 ? ODD[by.nextInt(ODD.length)] : by.nextInt(n);
    }

    private int someRow(int n, String figures) {
        if (by.nextInt(25) == 0) {
            return by.nextBoolean() ? by.nextInt() : ODD[by.nextInt(ODD.length)];
        }
        int row = 0;
        for (int i = 0; i < n; i++) {
            row = 10 * row + figures.charAt(by.nextInt(figures.length())) - 48;
        }
        return row;
    }

    /** Doings of which most can be. */
    private int someDoings(int n) {
        int row = by.nextInt(40) == 0 ? 1 : 0;
        for (int i = 0; i < n; i++) {
            int a = by.nextInt(15) == 0 ? by.nextInt(10) : by.nextInt(7);
            int b = by.nextInt(15) == 0 ? by.nextInt(10) : a == 0 ? by.nextInt(2) : by.nextInt(4);
            row = 100 * row + 10 * a + b;
        }
        return by.nextInt(40) == 0 ? -row : row;
    }

    private void step(String text) {
        int kind = by.nextInt(10);
        if (kind < 4) {
            act();
        } else if (kind < 7) {
            ask();
        } else {
            askMore();
        }
        if (by.nextInt(6) == 0) {
            int what = by.nextInt(11) - 1;
            due("count " + what + " in " + text, x.count(what), y.count(what));
        }
    }

    private void act() {
        int r = some(5);
        int s = some(4);
        switch (by.nextInt(14)) {
            case 0: due("rest " + r, x.rest(r), y.rest(r)); break;
            case 1: due("withdraw " + r + " " + s, x.withdraw(r, s), y.withdraw(r, s)); break;
            case 2: due("prism", x.prism(), y.prism()); break;
            case 3: due("tell", x.tell(), y.tell()); break;
            case 4:
                for (int i = by.nextInt(by.nextInt(6) == 0 ? 16 : 4); i >= 0; i--) {
                    calls++;
                    due("undo", x.undo(), y.undo());
                }
                break;
            case 5:
                int slot = by.nextInt(12) == 0 ? some(4) : by.nextInt(2);
                due("keep " + slot, x.keep(slot), y.keep(slot));
                break;
            case 6:
                int from = by.nextInt(12) == 0 ? some(4) : by.nextInt(2);
                if (by.nextInt(4) == 0) {
                    due("again " + from, x.again(from), y.again(from));
                }
                break;
            default:
                for (int i = by.nextInt(4) == 0 ? 4 : 0; i >= 0; i--) {
                    calls++;
                    due("read " + r + " " + s, x.read(r, s), y.read(r, s));
                }
        }
    }

    private void ask() {
        int r = some(5);
        int s = some(4);
        int what = some(4);
        boolean b = by.nextBoolean();
        switch (by.nextInt(8)) {
            case 0: due("reader " + r + " " + what, x.reader(r, what), y.reader(r, what)); break;
            case 1: due("sample " + s + " " + what, x.sample(s, what), y.sample(s, what)); break;
            case 2: due("bright " + r + " " + s, x.bright(r, s), y.bright(r, s)); break;
            case 3: due("fooled " + s, x.fooled(s), y.fooled(s)); break;
            case 4: due("truly " + s, x.truly(s), y.truly(s)); break;
            case 5: due("cover", x.cover(), y.cover()); break;
            case 6: due("wrong " + b, x.wrong(b), y.wrong(b)); break;
            default:
                int n = by.nextInt(20) == 0 ? some(7) : 1 + by.nextInt(4);
                int row = by.nextInt(8) == 0 ? someRow(2 * n, "0123456") : someDoings(n);
                due("judge " + n + " " + row, x.judge(n, row), y.judge(n, row));
        }
    }

    private void askMore() {
        int r = some(5);
        int s = some(4);
        boolean b = by.nextBoolean();
        switch (by.nextInt(9)) {
            case 0:
                int p = some(2);
                int q = some(2);
                due("hear " + r + " " + s + " " + p + " " + q, x.hear(r, s, p, q), y.hear(r, s, p, q));
                break;
            case 1:
                if (by.nextInt(3) == 0) {
                    due("unhear", x.unhear(), y.unhear());
                }
                break;
            case 2: due("expect " + r, x.expect(r), y.expect(r)); break;
            case 3:
                askGone(r);
                break;
            case 4: due("share " + r + " " + b, x.share(r, b), y.share(r, b)); break;
            case 5:
                int o = some(5);
                int what = some(2);
                due("rests " + r + " " + o + " " + s + " " + what, x.rests(r, o, s, what), y.rests(r, o, s, what));
                break;
            case 6:
                int m = some(6);
                int t = some(11);
                due("flicker " + s + " " + m + " " + t, x.flicker(s, m, t, b), y.flicker(s, m, t, b));
                break;
            case 7:
                long v = by.nextLong();
                if (by.nextInt(3) == 0) {
                    due("seed", x.seed(v), y.seed(v));
                }
                break;
            default:
                int w = by.nextInt(20) == 0 ? some(40) : by.nextInt(31);
                due("winters " + w, x.winters(w), y.winters(w));
        }
    }

    /** Rows of the samples there are, and what the reader would say in some case: then a bit is set. */
    private void askGone(int r) {
        int n = by.nextInt(20) == 0 ? some(8) : 1 + by.nextInt(6);
        int there = Math.max(1, y.count(2));
        int row = someRow(n, by.nextInt(10) == 0 ? "01234567" : "1234".substring(0, there));
        int said = by.nextInt(15) == 0 ? some(80) : by.nextInt(1 << Math.max(0, Math.min(6, n)));
        if (by.nextBoolean()) {
            for (int all = 0; all < 64; all++) {
                if (y.gone(r, n, row, all) > 0) {
                    said = all;
                    if (by.nextInt(3) == 0) {
                        break;
                    }
                }
            }
        }
        due("gone " + r + " " + n + " " + row + " " + said, x.gone(r, n, row, said), y.gone(r, n, row, said));
    }
}
