/**
 * Square rooms of pairs: starters modulo an odd size, the adders that set them in columns,
 * and the rooms made of both. The words in capitals are those of the document (DOC.md).
 */
public final class SquareRooms {
    private static final int NOBODY = -1;
    private static final int OTHER = -2;
    private static final int STATE = -3;
    private static final int BELOW = -4;
    private static final int FULL = -6;
    private static final int NOTHING = -9;
    private static final int MISSING = -11;
    private static final int NO_PLACE = -13;
    private static final int NO_SIZE = -14;
    /** What a check answers where the call is not refused. */
    private static final int FINE = 0;
    private static final long LONG_REFUSALS = 4000000000000000000L;

    private static final int LEAST_SIZE = 3;
    private static final int MOST_SIZE = 13;
    private static final int MOST_SEARCHED = 11;
    private static final int MOST_PAIRS = 6;
    private static final int MOST_TURNS = 6;
    private static final int MOST_TIMES = 12;
    private static final int MOST_LETTERS = 72;
    private static final int MOST_LOTS = 50;
    private static final int MOST_UNDONE = 12;

    private static final int TIMES = 0;
    private static final int LESS = 1;
    private static final int ABOUT = 2;
    private static final int ROUND = 3;
    private static final int SWAP = 4;
    private static final int SHARE = 5;

    private final State state = new State();
    private final State taken = new State();
    private final State draft = new State();
    private boolean isTaken = false;
    private final Letters letters = new Letters();
    private final Lists lists = new Lists();
    private final History history = new History();
    private final Search search = new Search();
    private final Pairs thought = new Pairs();
    private final Pairs spare = new Pairs();
    private final int[] refusals = new int[7];

    public SquareRooms() {
    }

    // ---- pairs

    public int letter(int c) {
        if (c < 0) {
            return refuse(BELOW);
        }
        if (c > 255 || letters.amount >= MOST_LETTERS) {
            return refuse(FULL);
        }
        return letters.come(c);
    }

    public int text() {
        int fault = letters.wrongPlace();
        int answer = -1000 - fault;
        if (fault < 0) {
            draft.copyFrom(state);
            answer = letters.layOn(draft);
        }
        letters.amount = 0;
        if (answer >= 0) {
            state.copyFrom(draft);
            history.forget();
        }
        return answer;
    }

    public int size(int n) {
        int no = State.refusalOfSize(n);
        if (no != FINE) {
            return refuse(no);
        }
        int was = state.pairs.modulus;
        state.resize(n);
        history.forget();
        return was;
    }

    public int pair(int x, int y) {
        int no = state.refusalOfPair(x, y);
        if (no != FINE) {
            return refuse(no);
        }
        history.forget();
        state.pairs.append(x, y);
        return state.pairs.amount - 1;
    }

    public int drop() {
        if (state.pairs.amount < 1) {
            return refuse(STATE);
        }
        history.forget();
        state.pairs.amount--;
        return state.pairs.amount;
    }

    public int adder(int pair, int v) {
        int no = state.refusalOfAdder(pair, v);
        if (no != FINE) {
            return refuse(no);
        }
        history.keep(state.pairs);
        int was = state.pairs.adders[pair];
        state.pairs.adders[pair] = v;
        return was;
    }

    public int of(int pair, int what) {
        if (!state.pairs.has(pair)) {
            return refuse(NOBODY);
        }
        if (what < 0 || what > 4) {
            return refuse(OTHER);
        }
        return state.pairs.told(pair, what);
    }

    public int is(int what) {
        if (what < 0 || what > 4) {
            return refuse(OTHER);
        }
        return bit(state.pairs.areSuch(what));
    }

    public int book() {
        Pairs pairs = state.pairs;
        if (pairs.modulus > MOST_SEARCHED) {
            return refuse(FULL);
        }
        history.forget();
        pairs.becomeBook(pairs.modulus);
        search.goThroughAdders(pairs, 0);
        if (search.found > 0) {
            pairs.copyFrom(search.trial);
        }
        return pairs.amount;
    }

    public int right(int d) {
        Pairs pairs = state.pairs;
        if (d < 0) {
            return refuse(BELOW);
        }
        if (d > pairs.most()) {
            return refuse(FULL);
        }
        if (!pairs.areStarter()) {
            return refuse(STATE);
        }
        thought.becomeBook(pairs.modulus);
        return d == 0 ? bit(pairs.areRightTo(thought)) : pairs.shiftFrom(thought, d);
    }

    // ---- the room

    public int build() {
        if (!state.pairs.areWhole()) {
            return refuse(STATE);
        }
        history.forget();
        return state.room.becomeBuilt(state.pairs);
    }

    public int cell(int r, int c, int x, int y) {
        int no = refusalOfCell(r, c, x, y);
        if (no != FINE) {
            return refuse(no);
        }
        int place = state.room.placeOf(r, c);
        int was = state.room.cells[place];
        history.keepCell(state.pairs, place, was);
        state.room.cells[place] = x < 0 ? Room.EMPTY : Room.codeOf(x, y);
        return bit(was != Room.EMPTY);
    }

    public int at(int r, int c, int what) {
        if (!state.room.has(r, c)) {
            return refuse(NOBODY);
        }
        if (what < 0 || what > 1) {
            return refuse(OTHER);
        }
        int code = state.room.cells[state.room.placeOf(r, c)];
        if (code == Room.EMPTY) {
            return NOTHING;
        }
        return what == 0 ? Room.lesserOf(code) : Room.greaterOf(code);
    }

    public int faults(int what, int k) {
        if (what < 0 || what > 2) {
            return refuse(OTHER);
        }
        if (what == 2) {
            return state.room.faultsOfPairs();
        }
        if (k < 0 || k >= state.room.side) {
            return refuse(NOBODY);
        }
        return state.room.faultsOfLine(what == 0, k);
    }

    public int indeed() {
        return bit(state.room.isIndeed());
    }

    public int faced() {
        return state.room.facing();
    }

    public int where(int x, int y) {
        int n = state.room.side;
        if (x < 0 || y < 0) {
            return refuse(BELOW);
        }
        if (x > n || y > n) {
            return refuse(FULL);
        }
        if (x == y) {
            return refuse(STATE);
        }
        return state.room.firstOf(Room.codeOf(x, y));
    }

    // ---- searches

    public int starters(int i, int k) {
        int n = state.pairs.modulus;
        if (i < -1) {
            return refuse(BELOW);
        }
        if (n > MOST_SEARCHED) {
            return refuse(STATE);
        }
        if (i >= 0 && (k < 0 || k >= state.pairs.most())) {
            return refuse(NOBODY);
        }
        search.goThroughStarters(n, i);
        if (i < 0) {
            return search.found;
        }
        return search.hasWanted() ? search.trial.seconds[k] : NOTHING;
    }

    public int strong(int what) {
        if (what < 0 || what > 1) {
            return refuse(OTHER);
        }
        if (state.pairs.modulus > MOST_SEARCHED) {
            return refuse(STATE);
        }
        search.goThroughStarters(state.pairs.modulus, -1);
        return what == 0 ? search.strongOnes : search.skewOnes;
    }

    public int adders(int i, int k) {
        Pairs pairs = state.pairs;
        if (i < -1) {
            return refuse(BELOW);
        }
        if (pairs.modulus > MOST_SEARCHED || !pairs.areStarter()) {
            return refuse(STATE);
        }
        if (i >= 0 && !pairs.has(k)) {
            return refuse(NOBODY);
        }
        search.goThroughAdders(pairs, i);
        if (i < 0) {
            return search.found;
        }
        return search.hasWanted() ? search.trial.adders[k] : NOTHING;
    }

    public long odds(int part) {
        if (part < 0 || part > 1) {
            return refuseLong(OTHER);
        }
        if (state.pairs.modulus > MOST_SEARCHED) {
            return refuseLong(STATE);
        }
        search.goThroughStarters(state.pairs.modulus, -1);
        // 0 by 1, if no STARTER is found
        int below = Math.max(1, search.found);
        int common = Math.max(1, greatestCommon(search.strongOnes, below));
        return (part == 0 ? search.strongOnes : below) / common;
    }

    public int lots(int m, int z, int what) {
        if (m < 1) {
            return refuse(BELOW);
        }
        if (m > MOST_LOTS) {
            return refuse(FULL);
        }
        if (what < 0 || what > 1) {
            return refuse(OTHER);
        }
        if (state.pairs.amount < 1) {
            return refuse(STATE);
        }
        thought.copyFrom(state.pairs);
        int changes = thought.changeByLots(m, z);
        return what == 0 ? changes : Integer.bitCount(thought.differenceBits());
    }

    // ---- turns

    public int turn(int kind, int u) {
        int no = state.refusalOfTurn(kind, u);
        if (no != FINE) {
            return refuse(no);
        }
        state.turns.append(kind, u);
        return state.turns.amount;
    }

    public int still() {
        int was = state.turns.amount;
        state.turns.amount = 0;
        return was;
    }

    public int turned(int k, int what) {
        if (!state.pairs.has(k)) {
            return refuse(NOBODY);
        }
        if (what < 0 || what > 2) {
            return refuse(OTHER);
        }
        turnInThought();
        return thought.told(k, what);
    }

    public int turns() {
        turnInThought();
        if (!thought.canBe()) {
            return refuse(STATE);
        }
        history.keep(state.pairs);
        state.pairs.copyFrom(thought);
        return state.pairs.amount;
    }

    // ---- lists of numbers

    public int list(int list, int n) {
        if (!lists.has(list)) {
            return refuse(NOBODY);
        }
        if (n > Lists.MOST) {
            return refuse(FULL);
        }
        if (n < 0) {
            return NO_SIZE;
        }
        lists.make(list, n);
        return 1;
    }

    public int put(int list, int i, int v) {
        int no = refusalOfPlace(list, i, 1);
        if (no != FINE) {
            return no;
        }
        lists.rows[list][i] = v;
        return 1;
    }

    public long look(int list, int i) {
        int no = refusalOfPlace(list, i, 1);
        return no != FINE ? LONG_REFUSALS - no : lists.rows[list][i];
    }

    public int lays(int list, int i) {
        int numbers = 2 * state.pairs.amount;
        int no = refusalOfPlace(list, i, numbers);
        if (no != FINE) {
            return no;
        }
        for (int j = 0; j < numbers; j++) {
            lists.rows[list][i + j] = state.pairs.numberAt(j);
        }
        return numbers;
    }

    public int judge(int list) {
        int no = refusalOfList(list);
        return no != FINE ? no : lists.firstOtherwise(list, state.pairs);
    }

    public int sizes(int list) {
        int no = refusalOfList(list);
        if (no != FINE) {
            return no;
        }
        if (lists.lengths[list] % 2 != 0) {
            return refuse(STATE);
        }
        return lists.sizesOfStarter(list, thought);
    }

    // ---- the image

    public int undo() {
        if (history.amount < 1) {
            return refuse(STATE);
        }
        history.goBack(state);
        return history.amount;
    }

    public int image() {
        taken.copyFrom(state);
        isTaken = true;
        return state.pairs.amount;
    }

    public int on() {
        if (!isTaken) {
            return refuse(STATE);
        }
        state.copyFrom(taken);
        history.forget();
        return state.pairs.amount;
    }

    public int count(int what) {
        if (what >= 11 && what <= 16) {
            return refusals[what - 10];
        }
        switch (what) {
            case 0:
                return state.pairs.modulus;
            case 1:
                return state.pairs.amount;
            case 2:
                return state.turns.amount;
            case 3:
                return state.room.filled();
            case 4:
                return letters.amount;
            case 5:
                return history.amount;
            default:
                return NOTHING;
        }
    }

    // ---- what the calls share

    private int refuse(int no) {
        if (no < 0 && -no < refusals.length) {
            refusals[-no]++;
        }
        return no;
    }

    private long refuseLong(int no) {
        return LONG_REFUSALS - refuse(no);
    }

    private int refusalOfCell(int r, int c, int x, int y) {
        int n = state.room.side;
        if (!state.room.has(r, c)) {
            return NOBODY;
        }
        if (x == -1) {
            return FINE;
        }
        if (x < -1 || y < 0) {
            return BELOW;
        }
        if (x > n || y > n) {
            return FULL;
        }
        return x == y ? STATE : FINE;
    }

    /** Counts the refusal itself: those of lists are not all counted. */
    private int refusalOfList(int list) {
        if (!lists.has(list)) {
            return refuse(NOBODY);
        }
        return lists.lengths[list] < 0 ? MISSING : FINE;
    }

    /** Whether so many numbers from place i on have no place in a list; counts as refusalOfList. */
    private int refusalOfPlace(int list, int i, int numbers) {
        int no = refusalOfList(list);
        if (no != FINE) {
            return no;
        }
        // of no numbers none lacks a place, wherever i is
        boolean haveAll = numbers < 1 || i >= 0 && i <= lists.lengths[list] - numbers;
        return haveAll ? FINE : NO_PLACE;
    }

    private void turnInThought() {
        thought.copyFrom(state.pairs);
        state.turns.turnAll(thought, spare);
    }

    private static int bit(boolean so) {
        return so ? 1 : 0;
    }

    private static int wrap(int v, int n) {
        return n < 1 ? 0 : Math.floorMod(v, n);
    }

    /** Of two numbers of 0 .. b, b 1 or more (the search finds no more than some 25). */
    private static int greatestCommon(int a, int b) {
        for (int d = b; d > 1; d--) {
            if (a % d == 0 && b % d == 0) {
                return d;
            }
        }
        return 1;
    }

    /** THE PAIRS of a size with their ADDERS. */
    private static final class Pairs {
        final int[] firsts = new int[MOST_PAIRS];
        final int[] seconds = new int[MOST_PAIRS];
        final int[] adders = new int[MOST_PAIRS];
        int modulus = 7;
        int amount = 0;

        void copyFrom(Pairs other) {
            modulus = other.modulus;
            amount = other.amount;
            System.arraycopy(other.firsts, 0, firsts, 0, MOST_PAIRS);
            System.arraycopy(other.seconds, 0, seconds, 0, MOST_PAIRS);
            System.arraycopy(other.adders, 0, adders, 0, MOST_PAIRS);
        }

        void becomeEmpty(int n) {
            modulus = n;
            amount = 0;
        }

        /** The PAIRS of the BOOK, all ADDERS 0. */
        void becomeBook(int n) {
            becomeEmpty(n);
            for (int d = 1; d <= most(); d++) {
                append(d, n - d);
            }
        }

        void append(int x, int y) {
            if (amount < MOST_PAIRS) {
                firsts[amount] = x;
                seconds[amount] = y;
                adders[amount] = 0;
                amount++;
            }
        }

        int most() {
            return (modulus - 1) / 2;
        }

        boolean has(int k) {
            return k >= 0 && k < amount;
        }

        /** FIRST and SECOND of all PAIRS, one behind another, by place. */
        int numberAt(int place) {
            return place % 2 == 0 ? firsts[place / 2] : seconds[place / 2];
        }

        int told(int k, int what) {
            switch (what) {
                case 0:
                    return firsts[k];
                case 1:
                    return seconds[k];
                case 2:
                    return adders[k];
                case 3:
                    return wrap(firsts[k] + seconds[k], modulus);
                default:
                    return lesserDifference(k);
            }
        }

        int lesserDifference(int k) {
            int d = wrap(firsts[k] - seconds[k], modulus);
            return Math.min(d, modulus - d);
        }

        boolean areSuch(int what) {
            switch (what) {
                case 0:
                    return areWhole();
                case 1:
                    return areStarter();
                case 2:
                    return areStarter() && haveStrongSums();
                case 3:
                    return areStarter() && haveStrongSums() && haveSkewSums();
                default:
                    return areAdded();
            }
        }

        boolean areWhole() {
            return amount == most();
        }

        boolean areStarter() {
            return areWhole() && numberBits() == allButZero() && differenceBits() == allButZero();
        }

        boolean haveStrongSums() {
            int sums = sumBits();
            return (sums & 1) == 0 && Integer.bitCount(sums) == amount;
        }

        boolean haveSkewSums() {
            int sums = sumBits();
            for (int k = 0; k < amount; k++) {
                int less = wrap(-(firsts[k] + seconds[k]), modulus);
                if ((sums >> less & 1) != 0) {
                    return false;
                }
            }
            return true;
        }

        boolean areAdded() {
            if (!areStarter()) {
                return false;
            }
            int used = 0;
            int shifted = 0;
            for (int k = 0; k < amount; k++) {
                used |= 1 << adders[k];
                shifted |= 1 << wrap(firsts[k] + adders[k], modulus);
                shifted |= 1 << wrap(seconds[k] + adders[k], modulus);
            }
            return (used & 1) == 0 && Integer.bitCount(used) == amount && shifted == allButZero();
        }

        /** Whether it may be what PAIRS are: no NUMBER 0, none two of a PAIR alike. */
        boolean canBe() {
            for (int k = 0; k < amount; k++) {
                if (firsts[k] == 0 || seconds[k] == 0 || firsts[k] == seconds[k]) {
                    return false;
                }
            }
            return true;
        }

        private int allButZero() {
            return (1 << modulus) - 2;
        }

        private int numberBits() {
            int bits = 0;
            for (int k = 0; k < amount; k++) {
                bits |= 1 << firsts[k] | 1 << seconds[k];
            }
            return bits;
        }

        int differenceBits() {
            int bits = 0;
            for (int k = 0; k < amount; k++) {
                bits |= 1 << wrap(firsts[k] - seconds[k], modulus);
                bits |= 1 << wrap(seconds[k] - firsts[k], modulus);
            }
            return bits;
        }

        private int sumBits() {
            int bits = 0;
            for (int k = 0; k < amount; k++) {
                bits |= 1 << wrap(firsts[k] + seconds[k], modulus);
            }
            return bits;
        }

        boolean areRightTo(Pairs known) {
            int shifts = 0;
            for (int d = 1; d <= most(); d++) {
                shifts |= 1 << shiftFrom(known, d);
            }
            return (shifts & 1) == 0 && Integer.bitCount(shifts) == most();
        }

        /** SHIFT d: n is odd, so only one of the two ways round fits. */
        int shiftFrom(Pairs known, int d) {
            return wrap(numberAhead(d) - known.numberAhead(d), modulus);
        }

        /** The NUMBER that less the other one of its PAIR is d (0, if there is none). */
        private int numberAhead(int d) {
            for (int k = 0; k < amount; k++) {
                int difference = wrap(firsts[k] - seconds[k], modulus);
                if (difference == d) {
                    return firsts[k];
                }
                if (modulus - difference == d) {
                    return seconds[k];
                }
            }
            return 0;
        }

        /** LOTS: how often two PAIRS changed SECONDS. */
        int changeByLots(int m, int seed) {
            int z = seed;
            int changes = 0;
            for (int i = 0; i < m; i++) {
                z = drawn(z);
                int a = below(z, amount);
                z = drawn(z);
                int b = below(z, amount);
                if (has(a) && has(b) && firsts[a] != seconds[b] && firsts[b] != seconds[a]) {
                    int kept = seconds[a];
                    seconds[a] = seconds[b];
                    seconds[b] = kept;
                    changes++;
                }
            }
            return changes;
        }

        private static int drawn(int z) {
            return z * 1664525 + 1013904223;
        }

        private static int below(int z, int m) {
            return wrap((z & 0x7fffffff) / 256, m);
        }
    }

    /** TURNS: RULES in a row. */
    private static final class Turns {
        private final int[] kinds = new int[MOST_TURNS];
        private final int[] numbers = new int[MOST_TURNS];
        int amount = 0;

        void copyFrom(Turns other) {
            amount = other.amount;
            System.arraycopy(other.kinds, 0, kinds, 0, MOST_TURNS);
            System.arraycopy(other.numbers, 0, numbers, 0, MOST_TURNS);
        }

        void append(int kind, int u) {
            if (amount < MOST_TURNS) {
                kinds[amount] = kind;
                numbers[amount] = u;
                amount++;
            }
        }

        void turnAll(Pairs pairs, Pairs spare) {
            for (int t = 0; t < amount; t++) {
                turnOnce(pairs, spare, kinds[t], numbers[t]);
            }
        }

        private static void turnOnce(Pairs pairs, Pairs spare, int kind, int u) {
            switch (kind) {
                case TIMES:
                    multiply(pairs, u);
                    break;
                case LESS:
                    multiply(pairs, -1);
                    break;
                case ABOUT:
                    reverse(pairs, spare);
                    break;
                case ROUND:
                    rotate(pairs, spare, u);
                    break;
                case SWAP:
                    swap(pairs, spare, u);
                    break;
                case SHARE:
                    share(pairs, spare, u);
                    break;
                default:
                    break;
            }
        }

        private static void multiply(Pairs pairs, int u) {
            for (int k = 0; k < pairs.amount; k++) {
                pairs.firsts[k] = wrap(u * pairs.firsts[k], pairs.modulus);
                pairs.seconds[k] = wrap(u * pairs.seconds[k], pairs.modulus);
                pairs.adders[k] = wrap(u * pairs.adders[k], pairs.modulus);
            }
        }

        private static void reverse(Pairs pairs, Pairs spare) {
            spare.copyFrom(pairs);
            for (int k = 0; k < pairs.amount; k++) {
                takeOver(pairs, k, spare, pairs.amount - 1 - k);
            }
        }

        private static void rotate(Pairs pairs, Pairs spare, int u) {
            spare.copyFrom(pairs);
            for (int k = 0; k < pairs.amount; k++) {
                takeOver(pairs, k, spare, wrap(k + u, pairs.amount));
            }
        }

        private static void takeOver(Pairs pairs, int k, Pairs from, int other) {
            pairs.firsts[k] = from.firsts[other];
            pairs.seconds[k] = from.seconds[other];
            pairs.adders[k] = from.adders[other];
        }

        private static void swap(Pairs pairs, Pairs spare, int u) {
            if (u % 2 == 0) {
                return;
            }
            spare.copyFrom(pairs);
            for (int k = 0; k < pairs.amount; k++) {
                pairs.firsts[k] = spare.seconds[k];
                pairs.seconds[k] = spare.firsts[k];
            }
        }

        private static void share(Pairs pairs, Pairs spare, int u) {
            spare.copyFrom(pairs);
            for (int k = 0; k < pairs.amount; k++) {
                pairs.adders[k] = spare.adders[wrap(k + u, pairs.amount)];
            }
        }
    }

    /** THE ROOM: a CELL holds the code of its two POINTS, the lesser ahead, so no code is 0. */
    private static final class Room {
        static final int EMPTY = 0;
        private static final int POINTS = MOST_SIZE + 1;

        final int[] cells = new int[MOST_SIZE * MOST_SIZE];
        private final int[] tally = new int[POINTS * POINTS];
        int side = 7;

        static int codeOf(int x, int y) {
            return Math.min(x, y) * POINTS + Math.max(x, y);
        }

        static int lesserOf(int code) {
            return code / POINTS;
        }

        static int greaterOf(int code) {
            return code % POINTS;
        }

        void copyFrom(Room other) {
            side = other.side;
            System.arraycopy(other.cells, 0, cells, 0, MOST_SIZE * MOST_SIZE);
        }

        void becomeEmpty(int n) {
            side = n;
            for (int place = 0; place < cells.length; place++) {
                cells[place] = EMPTY;
            }
        }

        boolean has(int r, int c) {
            return r >= 0 && r < side && c >= 0 && c < side;
        }

        int placeOf(int r, int c) {
            return r * side + c;
        }

        private boolean isFilled(int r, int c) {
            return cells[placeOf(r, c)] != EMPTY;
        }

        /** How many are LOST. */
        int becomeBuilt(Pairs pairs) {
            becomeEmpty(pairs.modulus);
            int lost = 0;
            for (int i = 0; i < side; i++) {
                lost += lay(i, i, codeOf(side, i));
                for (int k = 0; k < pairs.amount; k++) {
                    int x = wrap(pairs.firsts[k] + i, side);
                    int y = wrap(pairs.seconds[k] + i, side);
                    lost += lay(i, wrap(i - pairs.adders[k], side), codeOf(x, y));
                }
            }
            return lost;
        }

        private int lay(int r, int c, int code) {
            if (isFilled(r, c)) {
                return 1;
            }
            cells[placeOf(r, c)] = code;
            return 0;
        }

        int filled() {
            int filled = 0;
            for (int place = 0; place < side * side; place++) {
                filled += bit(cells[place] != EMPTY);
            }
            return filled;
        }

        int faultsOfLine(boolean isRow, int k) {
            int seen = 0;
            int again = 0;
            for (int j = 0; j < side; j++) {
                int code = cells[isRow ? placeOf(k, j) : placeOf(j, k)];
                if (code != EMPTY) {
                    int both = 1 << lesserOf(code) | 1 << greaterOf(code);
                    again |= seen & both;
                    seen |= both;
                }
            }
            return side + 1 - Integer.bitCount(seen & ~again);
        }

        int faultsOfPairs() {
            for (int code = 0; code < tally.length; code++) {
                tally[code] = 0;
            }
            for (int place = 0; place < side * side; place++) {
                tally[cells[place]]++;
            }
            int faults = side * (side + 1) / 2;
            for (int code = EMPTY + 1; code < tally.length; code++) {
                faults -= bit(tally[code] == 1);
            }
            return faults;
        }

        boolean isIndeed() {
            for (int k = 0; k < side; k++) {
                if (faultsOfLine(true, k) != 0 || faultsOfLine(false, k) != 0) {
                    return false;
                }
            }
            return faultsOfPairs() == 0;
        }

        int facing() {
            int facing = 0;
            for (int r = 0; r < side; r++) {
                for (int c = 0; c < side; c++) {
                    facing += bit(r != c && isFilled(r, c) == isFilled(c, r));
                }
            }
            return facing;
        }

        int firstOf(int code) {
            for (int r = 0; r < side; r++) {
                for (int c = 0; c < side; c++) {
                    if (cells[placeOf(r, c)] == code) {
                        return 100 * r + c;
                    }
                }
            }
            return NOTHING;
        }
    }

    /** What an image keeps and a text changes; with what forbids a change of it. */
    private static final class State {
        final Pairs pairs = new Pairs();
        final Turns turns = new Turns();
        final Room room = new Room();

        void copyFrom(State other) {
            pairs.copyFrom(other.pairs);
            turns.copyFrom(other.turns);
            room.copyFrom(other.room);
        }

        void resize(int n) {
            pairs.becomeEmpty(n);
            turns.amount = 0;
            room.becomeEmpty(n);
        }

        static int refusalOfSize(int n) {
            if (n < LEAST_SIZE) {
                return BELOW;
            }
            if (n > MOST_SIZE) {
                return FULL;
            }
            return n % 2 == 0 ? STATE : FINE;
        }

        int refusalOfPair(int x, int y) {
            int n = pairs.modulus;
            if (x < 1 || y < 1) {
                return BELOW;
            }
            if (x >= n || y >= n || pairs.areWhole()) {
                return FULL;
            }
            return x == y ? STATE : FINE;
        }

        int refusalOfAdder(int k, int v) {
            if (!pairs.has(k)) {
                return NOBODY;
            }
            if (v < 0) {
                return BELOW;
            }
            return v >= pairs.modulus ? FULL : FINE;
        }

        int refusalOfTurn(int kind, int u) {
            if (kind < TIMES || kind > SHARE) {
                return OTHER;
            }
            if (u < 0) {
                return BELOW;
            }
            return u > MOST_TIMES || turns.amount >= MOST_TURNS ? FULL : FINE;
        }
    }

    /** The letters that came, and the TEXT that they may be. */
    private static final class Letters {
        private final int[] signs = new int[MOST_LETTERS];
        int amount = 0;

        int come(int c) {
            if (amount < MOST_LETTERS) {
                signs[amount] = c;
                amount++;
            }
            return amount;
        }

        /** How many letters a STATEMENT has that begins so, its ";" too; 0: none begins so. */
        private static int lengthOf(int head) {
            switch (head) {
                case 'n':
                    return 4;
                case 'p':
                    return 6;
                case 'a':
                case 't':
                    return 5;
                default:
                    return 0;
            }
        }

        /** The place of a FAULT of kind 1; -1: there is none. */
        int wrongPlace() {
            int left = 0;
            for (int i = 0; i < amount; i++) {
                int c = signs[i];
                if (left == 0) {
                    left = lengthOf(c);
                    if (left == 0) {
                        return i;
                    }
                } else if (left == 1 ? c != ';' : c < '0' || c > '9') {
                    return i;
                }
                left--;
            }
            return left != 0 || amount == 0 ? amount : -1;
        }

        /** How many STATEMENTS come on a draft; a FAULT of kind 2 ends it half done. */
        int layOn(State draft) {
            int statements = 0;
            for (int i = 0; i < amount; i += Math.max(1, lengthOf(signs[i]))) {
                if (!comeOn(draft, i)) {
                    return -2000 - i;
                }
                statements++;
            }
            return statements;
        }

        private boolean comeOn(State draft, int start) {
            switch (signs[start]) {
                case 'n':
                    return resize(draft, number(start + 1, 2));
                case 'p':
                    return addPair(draft, number(start + 1, 2), number(start + 3, 2));
                case 'a':
                    return setAdder(draft, number(start + 1, 1), number(start + 2, 2));
                default:
                    return addTurn(draft, number(start + 1, 1), number(start + 2, 2));
            }
        }

        private int number(int from, int digits) {
            int told = 0;
            for (int i = from; i < from + digits && i < amount; i++) {
                told = 10 * told + signs[i] - '0';
            }
            return told;
        }

        private static boolean resize(State draft, int n) {
            boolean can = State.refusalOfSize(n) == FINE;
            if (can) {
                draft.resize(n);
            }
            return can;
        }

        private static boolean addPair(State draft, int x, int y) {
            boolean can = draft.refusalOfPair(x, y) == FINE;
            if (can) {
                draft.pairs.append(x, y);
            }
            return can;
        }

        private static boolean setAdder(State draft, int k, int v) {
            boolean can = draft.refusalOfAdder(k, v) == FINE;
            if (can) {
                draft.pairs.adders[k] = v;
            }
            return can;
        }

        private static boolean addTurn(State draft, int kind, int u) {
            boolean can = draft.refusalOfTurn(kind, u) == FINE;
            if (can) {
                draft.turns.append(kind, u);
            }
            return can;
        }
    }

    /** SEARCH: one behind another, up to a wanted one (or all, if it is -1), which then stays in trial. */
    private static final class Search {
        final Pairs trial = new Pairs();
        private int wanted = -1;
        int found = 0;
        int strongOnes = 0;
        int skewOnes = 0;

        private void begin(int i) {
            wanted = i;
            found = 0;
            strongOnes = 0;
            skewOnes = 0;
        }

        boolean hasWanted() {
            return wanted >= 0 && found > wanted;
        }

        void goThroughStarters(int n, int i) {
            begin(i);
            trial.becomeBook(n);
            seekStarters(this, 0, 1, 0);
        }

        void goThroughAdders(Pairs pairs, int i) {
            begin(i);
            trial.copyFrom(pairs);
            seekAdders(this, 0, 1, 1);
        }

        private void noteStarter() {
            found++;
            if (trial.haveStrongSums()) {
                strongOnes++;
                skewOnes += bit(trial.haveSkewSums());
            }
        }

        /** PAIR k and those behind it; numbers and lesser differences already used are bits. */
        private static void seekStarters(Search search, int k, int numbers, int differences) {
            Pairs trial = search.trial;
            int n = trial.modulus;
            if (k >= trial.amount) {
                search.noteStarter();
                return;
            }
            int lesser = leastFree(numbers, n);
            for (int other = lesser + 1; other < n && !search.hasWanted(); other++) {
                int number = 1 << other;
                int difference = 1 << Math.min(other - lesser, n - other + lesser);
                if ((numbers & number) == 0 && (differences & difference) == 0) {
                    trial.firsts[k] = lesser;
                    trial.seconds[k] = other;
                    seekStarters(search, k + 1, numbers | 1 << lesser | number, differences | difference);
                }
            }
        }

        private static int leastFree(int numbers, int n) {
            int v = 0;
            while (v < n && (numbers >> v & 1) != 0) {
                v++;
            }
            return v;
        }

        /** The ADDER of PAIR k and those behind it; adders and shifted numbers already used are bits. */
        private static void seekAdders(Search search, int k, int adders, int shifted) {
            Pairs trial = search.trial;
            int n = trial.modulus;
            if (k >= trial.amount) {
                search.found++;
                return;
            }
            for (int v = 1; v < n && !search.hasWanted(); v++) {
                int both = 1 << wrap(trial.firsts[k] + v, n) | 1 << wrap(trial.seconds[k] + v, n);
                if ((adders >> v & 1) == 0 && (shifted & both) == 0) {
                    trial.adders[k] = v;
                    seekAdders(search, k + 1, adders | 1 << v, shifted | both);
                }
            }
        }
    }

    /** LISTS: a length below 0 tells that one is missing. */
    private static final class Lists {
        static final int MOST = 40;
        private static final int AMOUNT = 3;

        final int[][] rows = new int[AMOUNT][MOST];
        final int[] lengths = {-1, -1, -1};

        boolean has(int list) {
            return list >= 0 && list < AMOUNT;
        }

        void make(int list, int n) {
            lengths[list] = n;
            for (int i = 0; i < MOST; i++) {
                rows[list][i] = 0;
            }
        }

        int firstOtherwise(int list, Pairs pairs) {
            for (int i = 0; i < lengths[list]; i++) {
                if (!pairs.has(i / 2) || pairs.numberAt(i) != rows[list][i]) {
                    return i;
                }
            }
            return NOTHING;
        }

        /** So many PAIRS are WHOLE by one SIZE alone. */
        int sizesOfStarter(int list, Pairs thought) {
            int n = lengths[list] + 1;
            if (n < LEAST_SIZE || n > MOST_SIZE) {
                return 0;
            }
            thought.becomeEmpty(n);
            for (int i = 0; i + 1 < n; i += 2) {
                int x = rows[list][i];
                int y = rows[list][i + 1];
                if (x < 1 || x >= n || y < 1 || y >= n || x == y) {
                    return 0;
                }
                thought.append(x, y);
            }
            return thought.areStarter() ? 1 << (n - LEAST_SIZE) / 2 : 0;
        }
    }

    /** What can be UNDONE: PAIRS as ahead of each, and the one CELL that it changed, in a ring. */
    private static final class History {
        private static final int NO_CELL = -1;

        private final int[][] firsts = new int[MOST_UNDONE][MOST_PAIRS];
        private final int[][] seconds = new int[MOST_UNDONE][MOST_PAIRS];
        private final int[][] adders = new int[MOST_UNDONE][MOST_PAIRS];
        private final int[] places = new int[MOST_UNDONE];
        private final int[] codes = new int[MOST_UNDONE];
        private int next = 0;
        int amount = 0;

        void forget() {
            amount = 0;
        }

        void keep(Pairs pairs) {
            keepCell(pairs, NO_CELL, Room.EMPTY);
        }

        void keepCell(Pairs pairs, int place, int code) {
            System.arraycopy(pairs.firsts, 0, firsts[next], 0, MOST_PAIRS);
            System.arraycopy(pairs.seconds, 0, seconds[next], 0, MOST_PAIRS);
            System.arraycopy(pairs.adders, 0, adders[next], 0, MOST_PAIRS);
            places[next] = place;
            codes[next] = code;
            next = (next + 1) % MOST_UNDONE;
            amount = Math.min(amount + 1, MOST_UNDONE);
        }

        void goBack(State state) {
            next = (next + MOST_UNDONE - 1) % MOST_UNDONE;
            amount--;
            System.arraycopy(firsts[next], 0, state.pairs.firsts, 0, MOST_PAIRS);
            System.arraycopy(seconds[next], 0, state.pairs.seconds, 0, MOST_PAIRS);
            System.arraycopy(adders[next], 0, state.pairs.adders, 0, MOST_PAIRS);
            if (places[next] != NO_CELL) {
                state.room.cells[places[next]] = codes[next];
            }
        }
    }
}
