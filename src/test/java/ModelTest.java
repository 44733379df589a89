import java.util.ArrayList;
import java.util.Collections;
import java.util.List;
import java.util.Random;

/** Random runs of calls, the same on the class and on the model; every answer is compared. */
public final class ModelTest {
    private static final int RUNS = 3000;
    private static final int MOST_CALLS = 512;

    private final Due due;
    private final int run;
    private final Random random;
    private final SquareRooms x = new SquareRooms();
    private final Model m = new Model();
    private int calls = 0;

    private ModelTest(Due due, int run) {
        this.due = due;
        this.run = run;
        this.random = new Random(run);
    }

    public static void main(String[] args) {
        Due due = new Due("ModelTest");
        for (int run = 0; run < RUNS && !due.hasFailed(); run++) {
            new ModelTest(due, run).go();
        }
        due.end();
    }

    private void go() {
        int steps = 40 + random.nextInt(100);
        for (int i = 0; i < steps && calls < 150 && !due.hasFailed(); i++) {
            step();
        }
        readOut();
    }

    private void tell(String call, long got, long want) {
        calls++;
        due.is("run " + run + ", call " + calls + ": " + call, got, want);
    }

    /** A number, mostly of low .. high, now and then one beside it or far off. */
    private int some(int low, int high) {
        int odd = random.nextInt(40);
        if (odd == 0) {
            return low - 1;
        }
        if (odd == 1) {
            return high + 1;
        }
        if (odd == 2) {
            return random.nextInt();
        }
        if (odd == 3) {
            return random.nextBoolean() ? Integer.MIN_VALUE : Integer.MAX_VALUE;
        }
        return low + random.nextInt(high - low + 1);
    }

    private void step() {
        switch (random.nextInt(16)) {
            case 0:
                letKnown();
                break;
            case 1:
                letAdders();
                break;
            case 2:
                tellText();
                break;
            case 3:
                for (int i = random.nextInt(3); i >= 0; i--) {
                    adder(some(0, 5), some(0, m.now.n() - 1));
                }
                break;
            case 4:
                for (int i = random.nextInt(4); i >= 0; i--) {
                    cell(some(0, m.now.n() - 1), some(0, m.now.n() - 1), some(-1, m.now.n()), some(0, m.now.n()));
                }
                break;
            case 5:
            case 6:
                turnSome();
                break;
            case 7:
            case 8:
                listSome();
                break;
            case 9:
                tell("build()", x.build(), m.build());
                break;
            case 10:
                for (int i = random.nextInt(14); i >= 0; i--) {
                    tell("undo()", x.undo(), m.undo());
                }
                break;
            case 11:
                keepSome();
                break;
            default:
                askSome();
                break;
        }
    }

    private void pair(int a, int b) {
        tell("pair(" + a + ", " + b + ")", x.pair(a, b), m.pair(a, b));
    }

    private void adder(int k, int v) {
        tell("adder(" + k + ", " + v + ")", x.adder(k, v), m.adder(k, v));
    }

    private void size(int n) {
        tell("size(" + n + ")", x.size(n), m.size(n));
    }

    private void cell(int r, int c, int p, int q) {
        tell("cell(" + r + ", " + c + ", " + p + ", " + q + ")", x.cell(r, c, p, q), m.cell(r, c, p, q));
    }

    /** The BOOK, or one of the starters of a size with its PAIRS mixed, or PAIRS as they come. */
    private void letKnown() {
        if (random.nextInt(3) > 0) {
            size(3 + 2 * random.nextInt(6));
        } else {
            size(some(3, 13));
        }
        int n = m.now.n();
        int kind = random.nextInt(5);
        if (kind == 0 || kind < 3 && n > 11) {
            tell("book()", x.book(), m.book());
        } else if (kind < 4 && n <= 11) {
            List<int[]> all = Model.startersOf(n);
            List<Model.Pair> pairs = new ArrayList<>(Model.pairsOf(n, all.get(random.nextInt(all.size()))));
            Collections.shuffle(pairs, random);
            for (Model.Pair p : pairs) {
                boolean isSwapped = random.nextBoolean();
                pair(isSwapped ? p.second() : p.first(), isSwapped ? p.first() : p.second());
            }
        } else if (kind == 3) {
            for (int d = 1; 2 * d < n; d++) {
                pair(n - d, d);
            }
        } else {
            for (int i = 0; i < n / 2; i++) {
                pair(some(1, n - 1), some(1, n - 1));
            }
        }
    }

    private void letAdders() {
        if (m.now.n() > 11 || m.is(1) == 0) {
            return;
        }
        List<int[]> rows = Model.addersOf(m.now.n(), m.now.pairs());
        if (rows.isEmpty()) {
            return;
        }
        int[] row = rows.get(random.nextInt(rows.size()));
        for (int k = 0; k < row.length; k++) {
            adder(k, row[k]);
        }
    }

    private String number(int v) {
        return v < 10 ? "0" + v : "" + v % 100;
    }

    private String statement(int n) {
        switch (random.nextInt(8)) {
            case 0:
                return "n" + number(random.nextInt(4) > 0 ? 3 + 2 * random.nextInt(6) : random.nextInt(17)) + ";";
            case 1:
            case 2:
            case 3:
                return "p" + number(random.nextInt(n + 1)) + number(1 + random.nextInt(n)) + ";";
            case 4:
            case 5:
                return "a" + random.nextInt(3) + number(random.nextInt(n + 1)) + ";";
            default:
                return "t" + random.nextInt(7) + number(random.nextInt(14)) + ";";
        }
    }

    private void tellText() {
        int parts = random.nextInt(5) > 0 ? 1 + random.nextInt(3) : random.nextInt(20);
        StringBuilder told = new StringBuilder();
        for (int i = 0; i < parts; i++) {
            told.append(statement(m.now.n()));
        }
        if (random.nextInt(4) == 0 && told.length() > 0) {
            String letters = "npat;0129:/\u0000\u00ff";
            told.setCharAt(random.nextInt(told.length()), letters.charAt(random.nextInt(letters.length())));
        }
        if (random.nextInt(6) == 0) {
            told.setLength(random.nextInt(told.length() + 1));
        }
        for (int i = 0; i < told.length(); i++) {
            letter(told.charAt(i));
        }
        if (random.nextInt(20) == 0) {
            letter(some(0, 255));
        }
        tell("text() of " + told, x.text(), m.text());
    }

    private void letter(int c) {
        tell("letter(" + c + ")", x.letter(c), m.letter(c));
    }

    private void turnSome() {
        if (random.nextInt(4) == 0) {
            tell("still()", x.still(), m.still());
        }
        for (int i = random.nextInt(4); i > 0; i--) {
            int kind = some(0, 5);
            int u = some(0, 12);
            tell("turn(" + kind + ", " + u + ")", x.turn(kind, u), m.turn(kind, u));
        }
        int k = some(0, 5);
        int what = some(0, 2);
        tell("turned(" + k + ", " + what + ")", x.turned(k, what), m.turned(k, what));
        if (random.nextInt(3) == 0) {
            tell("turns()", x.turns(), m.turns());
        }
    }

    private void listSome() {
        int list = some(0, 2);
        int many = m.now.pairs().size();
        int n = random.nextInt(3) > 0 ? 2 * many : some(0, 40);
        int i = random.nextInt(3) > 0 ? 0 : some(0, 12);
        switch (random.nextInt(6)) {
            case 0:
            case 1:
                tell("list(" + list + ", " + n + ")", x.list(list, n), m.list(list, n));
                break;
            case 2:
                int v = some(0, 13);
                tell("put(" + list + ", " + i + ", " + v + ")", x.put(list, i, v), m.put(list, i, v));
                break;
            case 3:
                tell("look(" + list + ", " + i + ")", x.look(list, i), m.look(list, i));
                break;
            default:
                tell("lays(" + list + ", " + i + ")", x.lays(list, i), m.lays(list, i));
                break;
        }
        tell("judge(" + list + ")", x.judge(list), m.judge(list));
        tell("sizes(" + list + ")", x.sizes(list), m.sizes(list));
    }

    private void keepSome() {
        switch (random.nextInt(4)) {
            case 0:
            case 1:
                tell("image()", x.image(), m.image());
                break;
            case 2:
                tell("on()", x.on(), m.on());
                break;
            default:
                tell("drop()", x.drop(), m.drop());
                break;
        }
    }

    private void askSome() {
        int n = m.now.n();
        int i = some(-1, 12);
        int k = some(0, n / 2);
        int what = some(0, 4);
        int d = some(0, n / 2);
        int p = some(0, n);
        int q = some(0, n);
        switch (random.nextInt(9)) {
            case 0:
                tell("of(" + k + ", " + what + ")", x.of(k, what), m.of(k, what));
                tell("is(" + what + ")", x.is(what), m.is(what));
                break;
            case 1:
                tell("right(" + d + ")", x.right(d), m.right(d));
                break;
            case 2:
                tell("at(" + p + ", " + q + ", " + what + ")", x.at(p, q, what), m.at(p, q, what));
                tell("where(" + p + ", " + q + ")", x.where(p, q), m.where(p, q));
                break;
            case 3:
                tell("faults(" + what + ", " + p + ")", x.faults(what, p), m.faults(what, p));
                tell("indeed()", x.indeed(), m.indeed());
                tell("faced()", x.faced(), m.faced());
                break;
            case 4:
                tell("starters(" + i + ", " + k + ")", x.starters(i, k), m.starters(i, k));
                break;
            case 5:
                tell("adders(" + i + ", " + k + ")", x.adders(i, k), m.adders(i, k));
                break;
            case 6:
                tell("strong(" + what + ")", x.strong(what), m.strong(what));
                tell("odds(" + what + ")", x.odds(what), m.odds(what));
                break;
            case 7:
                int z = random.nextInt();
                int times = some(1, 50);
                int part = some(0, 1);
                tell("lots(" + times + ", " + z + ", " + part + ")", x.lots(times, z, part), m.lots(times, z, part));
                break;
            default:
                tell("count(" + q + ")", x.count(q), m.count(q));
                break;
        }
    }

    /** All that can be read, as far as an object's calls go. */
    private void readOut() {
        for (int what = 0; what <= 17; what++) {
            tell("count(" + what + ")", x.count(what), m.count(what));
        }
        for (int k = 0; k < m.now.pairs().size(); k++) {
            for (int what = 0; what <= 2; what++) {
                tell("of(" + k + ", " + what + ")", x.of(k, what), m.of(k, what));
                tell("turned(" + k + ", " + what + ")", x.turned(k, what), m.turned(k, what));
            }
        }
        for (int what = 0; what <= 4; what++) {
            tell("is(" + what + ")", x.is(what), m.is(what));
        }
        for (int list = 0; list < 3; list++) {
            for (int i = 0; i < 14; i++) {
                tell("look(" + list + ", " + i + ")", x.look(list, i), m.look(list, i));
            }
        }
        for (int r = 0; r < m.now.n(); r++) {
            for (int c = 0; c < m.now.n() && calls < MOST_CALLS; c++) {
                tell("at(" + r + ", " + c + ", 0)", x.at(r, c, 0), m.at(r, c, 0));
            }
        }
    }
}
