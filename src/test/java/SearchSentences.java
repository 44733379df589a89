import java.util.Arrays;
import java.util.Set;

/** The terms' third part as far as SEARCH, BOOK, TURNS and RIGHT. */
final class SearchSentences {
    private static final int[] SIZES = {3, 5, 7, 9, 11, 13};
    private static final int[] SEARCHED = {3, 5, 7, 9, 11};
    private static final int[] STARTERS = {1, 1, 3, 9, 25};
    private static final int[] ALL_U = {0, 1, 2, 3, 4, 5, 6, 7, 8, 9, 10, 11, 12};

    private final Sentences told;

    SearchSentences(Sentences told) {
        this.told = told;
    }

    void all() {
        starters();
        howMany();
        adders();
        book();
        rules();
        times();
        less();
        about();
        round();
        swap();
        share();
        takeAlong();
        inARow();
        truly();
        shifts();
        right();
    }

    private void term(String sentence) {
        told.term(sentence);
    }

    private void is(long got, long want) {
        told.is(got, want);
    }

    private static int mod(int v, int n) {
        return (v % n + n) % n;
    }

    // ---- search

    private static int[] starterOf(SquareRooms x, int i) {
        int[] others = new int[x.count(0) / 2];
        for (int k = 0; k < others.length; k++) {
            others[k] = x.starters(i, k);
        }
        return others;
    }

    private static int[] addersOf(SquareRooms x, int i) {
        int[] row = new int[x.count(1)];
        for (int k = 0; k < row.length; k++) {
            row[k] = x.adders(i, k);
        }
        return row;
    }

    /** PAIRS of the lesser NUMBERS that are left, each with its other one. */
    private static SquareRooms pairsOf(int n, int[] others) {
        SquareRooms x = Rooms.ofSize(n);
        boolean[] used = new boolean[n];
        int lesser = 1;
        for (int other : others) {
            while (used[lesser]) {
                lesser++;
            }
            x.pair(lesser, other);
            used[lesser] = true;
            used[other] = true;
        }
        return x;
    }

    private void starters() {
        term("SEARCH: STARTERS of SIZE n (n 11 at most), as PAIRS by their lesser NUMBER, the lesser first in each, "
            + "PAIRS by it, too: in order of the other NUMBER of the first PAIR, of like ones of that of the second, "
            + "and so on:");
        for (int j = 0; j < SEARCHED.length; j++) {
            int n = SEARCHED[j];
            SquareRooms x = Rooms.ofSize(n);
            int[] before = new int[n / 2];
            for (int i = 0; i < STARTERS[j]; i++) {
                int[] others = starterOf(x, i);
                told.holds("in order", Arrays.compare(before, others) < 0);
                is(pairsOf(n, others).is(1), 1);
                before = others;
            }
        }
        is(Rooms.ofSize(13).starters(0, 0), -3);
    }

    private void howMany() {
        term("how many; of the i-th, the other NUMBER of PAIR k; how many of them are STRONG, SKEW.");
        int[] strong = {0, 0, 2, 0, 4};
        for (int j = 0; j < SEARCHED.length; j++) {
            SquareRooms x = Rooms.ofSize(SEARCHED[j]);
            is(x.starters(-1, 0), STARTERS[j]);
            is(x.starters(STARTERS[j], 0), -9);
            is(x.strong(0), strong[j]);
            is(x.strong(1), strong[j]);
        }
        SquareRooms x = Rooms.ofSize(7);
        int[][] due = {{3, 6, 5}, {5, 3, 6}, {6, 5, 4}};
        for (int i = 0; i < 3; i++) {
            told.holds("of 7, " + i, Arrays.equals(starterOf(x, i), due[i]));
        }
        int strongOnes = 0;
        int skewOnes = 0;
        SquareRooms eleven = Rooms.ofSize(11);
        for (int i = 0; i < 25; i++) {
            SquareRooms pairs = pairsOf(11, starterOf(eleven, i));
            strongOnes += pairs.is(2);
            skewOnes += pairs.is(3);
        }
        is(strongOnes, 4);
        is(skewOnes, 4);
    }

    private void adders() {
        term("ADDERS of THE PAIRS (a STARTER, n 11 at most): rows of NUMBERS, one for each PAIR, that make it ADDED, in "
            + "order of that of PAIR 0, of like ones of that of PAIR 1, and so on: how many; of the i-th, that of "
            + "PAIR k.");
        addersAre(Rooms.ofSize(3, 2, 1), 0);
        addersAre(Rooms.ofSize(5, 1, 4, 3, 2), 0);
        addersAre(Rooms.ofSize(7, 4, 3, 6, 1, 5, 2), 2);
        addersAre(Rooms.ofSize(9, 5, 4, 1, 8, 2, 7, 3, 6), 0);
        addersAre(Rooms.ofSize(9, 1, 3, 2, 7, 4, 8, 5, 6), -1);
        addersAre(Rooms.starter(11), 4);
        addersAre(Rooms.ofSize(11, 7, 9, 1, 2, 3, 6, 10, 5, 4, 8), 4);
        is(Rooms.starter(13).adders(0, 0), -3);
        // by PAIRS as they come, not by their NUMBERS
        told.holds("first of 7", Arrays.equals(addersOf(Rooms.ofSize(7, 4, 3, 6, 1, 5, 2), 0), new int[] {1, 2, 4}));
        told.holds("second of 7", Arrays.equals(addersOf(Rooms.ofSize(7, 4, 3, 6, 1, 5, 2), 1), new int[] {6, 5, 3}));
    }

    /** All rows in order, each making it ADDED, and none behind the last; many -1: it is no STARTER. */
    private void addersAre(SquareRooms x, int many) {
        if (many < 0) {
            is(x.adders(-1, 0), -3);
            return;
        }
        is(x.adders(-1, 0), many);
        is(x.adders(many, 0), -9);
        int[] before = new int[x.count(1)];
        for (int i = 0; i < many; i++) {
            int[] row = addersOf(x, i);
            told.holds("in order", Arrays.compare(before, row) < 0);
            for (int k = 0; k < row.length; k++) {
                x.adder(k, row[k]);
            }
            is(x.is(4), 1);
            before = row;
        }
    }

    private void book() {
        term("BOOK: a STARTER that is known for each n: PAIRS d and n less d, d 1 .. (n less 1) / 2; with ADDERS, if "
            + "there is a row of them, the first by SEARCH (n 11 at most), else 0.");
        for (int n : SEARCHED) {
            SquareRooms x = Rooms.ofSize(n);
            is(x.book(), n / 2);
            is(x.is(1), 1);
            boolean hasRow = x.adders(-1, 0) > 0;
            for (int d = 1; d <= n / 2; d++) {
                is(x.of(d - 1, 0), d);
                is(x.of(d - 1, 1), n - d);
                is(x.of(d - 1, 2), hasRow ? x.adders(0, d - 1) : 0);
            }
            is(x.is(4), hasRow ? 1 : 0);
        }
        is(Rooms.ofSize(13).book(), -6);
    }

    // ---- turns

    /** PAIRS d, n less d with ADDERS 0, n less 1, n less 2, .., and one rule. */
    private static SquareRooms turning(int n, int kind, int u) {
        SquareRooms x = Rooms.starter(n);
        for (int k = 1; k < n / 2; k++) {
            x.adder(k, n - k);
        }
        x.turn(kind, u);
        return x;
    }

    private void turnedIs(SquareRooms x, int k, int first, int second, int adder) {
        is(x.turned(k, 0), first);
        is(x.turned(k, 1), second);
        is(x.turned(k, 2), adder);
    }

    private void turnedIsOf(SquareRooms x, int k, int other) {
        turnedIs(x, k, x.of(other, 0), x.of(other, 1), x.of(other, 2));
    }

    private void rules() {
        term("TURNS are RULES in a row, 6 at most: KIND and a NUMBER u (0 .. 12):");
        for (int n : SIZES) {
            SquareRooms x = Rooms.ofSize(n);
            for (int kind = 0; kind < 6; kind++) {
                is(x.turn(kind, -1), -4);
                is(x.turn(kind, 13), -6);
                is(x.turn(5 - kind, kind % 2 * 12), kind + 1);
            }
            is(x.turn(-1, 0), -2);
            is(x.turn(6, 0), -2);
            is(x.turn(0, 0), -6);
            is(x.count(2), 6);
        }
    }

    private void times() {
        term("0 TIMES: each NUMBER becomes u times it;");
        for (int n : SIZES) {
            for (int u : ALL_U) {
                SquareRooms x = turning(n, 0, u);
                for (int k = 0; k < n / 2; k++) {
                    turnedIs(x, k, mod(u * (k + 1), n), mod(u * (n - k - 1), n), mod(u * x.of(k, 2), n));
                }
            }
        }
        turnedIs(turning(13, 0, 12), 5, 7, 6, 5);
        turnedIs(turning(7, 0, 7), 1, 0, 0, 0);
    }

    private void less() {
        term("1 LESS: 0 less it (u counts nothing);");
        for (int n : SIZES) {
            for (int u : ALL_U) {
                SquareRooms x = turning(n, 1, u);
                turnedIs(x, 0, n - 1, 1, 0);
                for (int k = 1; k < n / 2; k++) {
                    turnedIs(x, k, n - k - 1, k + 1, k);
                }
            }
        }
    }

    private void about() {
        term("2 ABOUT: PAIRS in the other order;");
        for (int n : SIZES) {
            for (int u : ALL_U) {
                SquareRooms x = turning(n, 2, u);
                for (int k = 0; k < n / 2; k++) {
                    turnedIsOf(x, k, n / 2 - 1 - k);
                }
            }
        }
        SquareRooms one = Rooms.ofSize(13, 4, 2);
        one.turn(2, 0);
        turnedIs(one, 0, 4, 2, 0);
        one.drop();
        is(one.turns(), 0);
    }

    private void round() {
        term("3 ROUND: the PAIR k becomes the PAIR (k plus u) modulo how many there are;");
        for (int n : SIZES) {
            for (int u : ALL_U) {
                SquareRooms x = turning(n, 3, u);
                for (int k = 0; k < n / 2; k++) {
                    turnedIsOf(x, k, (k + u) % (n / 2));
                }
            }
        }
        SquareRooms three = Rooms.ofSize(13, 1, 2, 3, 4, 5, 6);
        three.turn(3, 11);
        for (int k = 0; k < 3; k++) {
            turnedIsOf(three, k, (k + 2) % 3);
        }
        SquareRooms none = Rooms.ofSize(13);
        none.turn(3, 1);
        is(none.turns(), 0);
    }

    private void swap() {
        term("4 SWAP: FIRST and SECOND change in all PAIRS, if u is odd;");
        for (int n : SIZES) {
            for (int u : ALL_U) {
                SquareRooms x = turning(n, 4, u);
                for (int k = 0; k < n / 2; k++) {
                    turnedIs(x, k, x.of(k, u % 2), x.of(k, 1 - u % 2), x.of(k, 2));
                }
            }
        }
    }

    private void share() {
        term("5 SHARE: the ADDER of PAIR k becomes that of PAIR (k plus u) modulo how many.");
        for (int n : SIZES) {
            for (int u : ALL_U) {
                SquareRooms x = turning(n, 5, u);
                for (int k = 0; k < n / 2; k++) {
                    turnedIs(x, k, x.of(k, 0), x.of(k, 1), x.of((k + u) % (n / 2), 2));
                }
            }
        }
        SquareRooms two = Rooms.ofSize(13, 1, 2, 3, 4);
        two.adder(0, 12);
        two.turn(5, 11);
        turnedIs(two, 0, 1, 2, 0);
        turnedIs(two, 1, 3, 4, 12);
        SquareRooms none = Rooms.ofSize(13);
        none.turn(5, 1);
        is(none.turns(), 0);
    }

    private void takeAlong() {
        term("TIMES and LESS turn ADDERS, too; ABOUT and ROUND take ADDERS along.");
        // ADDERS 2, 4, 1
        turnedIs(Rooms.bookTurned(0, 4), 1, 1, 6, 2);
        turnedIs(Rooms.bookTurned(1, 0), 1, 5, 2, 3);
        turnedIs(Rooms.bookTurned(2, 0), 0, 3, 4, 1);
        turnedIs(Rooms.bookTurned(3, 2), 0, 3, 4, 1);
    }

    private void inARow() {
        term("THE PAIRS TURNED: by all TURNS in a row, the first first (in thought): NUMBERS of PAIR k.");
        turnedIs(Rooms.bookTurned(3, 1, 2, 0), 0, 1, 6, 2);
        turnedIs(Rooms.bookTurned(2, 0, 3, 1), 0, 2, 5, 4);
        turnedIs(Rooms.bookTurned(2, 0, 5, 1), 0, 3, 4, 4);
        turnedIs(Rooms.bookTurned(5, 1, 2, 0), 0, 3, 4, 2);
        turnedIs(Rooms.bookTurned(0, 2, 0, 2, 0, 2, 0, 2, 0, 2, 0, 3), 2, 1, 6, 5);
        turnedIs(Rooms.bookTurned(), 2, 3, 4, 1);
        new Made(told, () -> Rooms.bookTurned(3, 1, 0, 3)).asks(6, x -> x.turned(0, 0));
    }

    private static SquareRooms withTurn(SquareRooms x, int kind, int u) {
        x.turn(kind, u);
        return x;
    }

    private void truly() {
        term("It can be done truly, if no NUMBER in a PAIR becomes 0 and none two of a PAIR alike (else STATE).");
        for (int n : SIZES) {
            for (int u : ALL_U) {
                boolean can = u % n != 0 && (n != 9 || u % 3 != 0);
                is(withTurn(Rooms.starter(n), 0, u).turns(), can ? n / 2 : -3);
            }
        }
        // TIMES 3 of 9: FIRST becomes 0; SECOND; both alike; neither; only the last of them
        is(withTurn(Rooms.ofSize(9, 3, 1), 0, 3).turns(), -3);
        is(withTurn(Rooms.ofSize(9, 1, 6), 0, 3).turns(), -3);
        is(withTurn(Rooms.ofSize(9, 1, 7), 0, 12).turns(), -3);
        is(withTurn(Rooms.ofSize(9, 1, 8), 0, 3).turns(), 1);
        is(withTurn(Rooms.ofSize(9, 1, 8, 2, 1, 4, 7), 0, 3).turns(), -3);
        // an ADDER may become 0; without PAIRS nothing can hinder
        SquareRooms x = Rooms.ofSize(9, 1, 8);
        x.adder(0, 3);
        is(withTurn(x, 0, 3).turns(), 1);
        is(x.of(0, 2), 0);
        is(withTurn(Rooms.ofSize(13), 0, 0).turns(), 0);
        new Made(told, () -> withTurn(Rooms.busy(), 0, 0)).refuses(-3, SquareRooms::turns);
    }

    // ---- right

    private static final int[][] STARTERS_OF_ANY = {{1, 2}, {4, 1, 2, 3}, {3, 1, 2, 6, 4, 5}, {1, 2, 6, 3, 4, 8, 7, 5},
        {2, 1, 3, 6, 8, 4, 5, 10, 9, 7}, {1, 2, 3, 6, 11, 4, 5, 9, 7, 12, 10, 8}};

    private static int[] withDifference(int n, int[] numbers, int d) {
        for (int i = 0; i < numbers.length; i += 2) {
            int difference = mod(numbers[i] - numbers[i + 1], n);
            if (difference == d || difference == n - d) {
                return new int[] {numbers[i], numbers[i + 1]};
            }
        }
        throw new IllegalArgumentException("no PAIR has the difference " + d);
    }

    private void shifts() {
        term("RIGHT to BOOK: THE PAIRS (a STARTER) and the BOOK's: for each d (1 .. (n less 1) / 2) the PAIR of each "
            + "whose difference (either way) is d: SHIFT d: what must be added to both NUMBERS of the BOOK's PAIR, so "
            + "that they are those of the other one.");
        for (int[] numbers : STARTERS_OF_ANY) {
            int n = numbers.length + 1;
            SquareRooms x = Rooms.ofSize(n, numbers);
            int[] book = new int[n - 1];
            for (int d = 1; d <= n / 2; d++) {
                book[2 * d - 2] = d;
                book[2 * d - 1] = n - d;
            }
            for (int d = 1; d <= n / 2; d++) {
                int shift = x.right(d);
                int[] from = withDifference(n, book, d);
                int[] to = withDifference(n, numbers, d);
                Set<Integer> moved = Set.of((from[0] + shift) % n, (from[1] + shift) % n);
                told.holds("SHIFT " + d + " of " + n, shift >= 0 && shift < n && moved.equals(Set.of(to[0], to[1])));
            }
            is(x.right(n / 2 + 1), -6);
            x.drop();
            is(x.right(1), -3);
        }
    }

    private void right() {
        term("SHIFTS are RIGHT, if all are unlike, none 0.");
        is(Rooms.ofSize(7, 1, 3, 2, 6, 4, 5).right(0), 1);
        is(Rooms.ofSize(7, 1, 5, 2, 3, 4, 6).right(0), 1);
        is(Rooms.ofSize(11, 1, 2, 3, 6, 4, 8, 5, 10, 7, 9).right(0), 1);
        is(Rooms.ofSize(13, 1, 2, 3, 6, 4, 11, 5, 9, 7, 12, 8, 10).right(0), 1);
        // alike, none 0
        is(Rooms.ofSize(9, 1, 2, 3, 7, 4, 6, 5, 8).right(0), 0);
        is(Rooms.ofSize(11, 1, 3, 2, 5, 4, 9, 6, 10, 7, 8).right(0), 0);
        is(Rooms.ofSize(13, 1, 2, 3, 6, 4, 11, 5, 10, 7, 9, 8, 12).right(0), 0);
        // one is 0; all are 0
        is(Rooms.ofSize(9, 1, 2, 3, 6, 4, 8, 5, 7).right(0), 0);
        for (int n : SIZES) {
            is(Rooms.starter(n).right(0), 0);
        }
    }
}
