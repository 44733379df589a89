/** The terms' first two parts, and what they say of fractions and REFUSALS. */
final class TermSentences {
    private static final int LOW = Integer.MIN_VALUE;
    private static final int HIGH = Integer.MAX_VALUE;
    private static final long LONGS = 4000000000000000000L;
    private static final int[] SIZES = {3, 5, 7, 9, 11, 13};

    private final Sentences told;
    private final Made fresh;
    private final Made anywhere;

    TermSentences(Sentences told) {
        this.told = told;
        fresh = new Made(told, SquareRooms::new);
        anywhere = new Made(told, SquareRooms::new, Rooms::busy, Rooms::full);
    }

    void all() {
        sizes();
        numbers();
        points();
        pairs();
        whole();
        starter();
        strong();
        skew();
        added();
        theRoom();
        built();
        faults();
        faced();
        fractions();
        refusals();
        kindsOfRefusals();
        ofLongs();
    }

    private void term(String sentence) {
        told.term(sentence);
    }

    private void is(long got, long want) {
        told.is(got, want);
    }

    private Made ofSize(int n, int... numbers) {
        return new Made(told, () -> Rooms.ofSize(n, numbers));
    }

    private static int mod(int v, int n) {
        return (v % n + n) % n;
    }

    // ---- numbers and pairs

    private void sizes() {
        term("SIZE n is odd, 3 .. 13 (7 at first).");
        fresh.asks(7, x -> x.count(0));
        for (int n = -3; n <= 17; n++) {
            SquareRooms x = new SquareRooms();
            boolean can = n % 2 != 0 && n >= 3 && n <= 13;
            is(x.size(n) == 7 ? 1 : 0, can ? 1 : 0);
            is(x.count(0), can ? n : 7);
            if (n >= 0) {
                SquareRooms y = new SquareRooms();
                is(Rooms.told(y, "n" + n / 10 + n % 10 + ";"), can ? 1 : -2000);
                is(y.count(0), can ? n : 7);
            }
        }
    }

    private void numbers() {
        term("NUMBERS are 0 .. n less 1, all reckoning is modulo n;");
        for (int n : SIZES) {
            SquareRooms x = Rooms.ofSize(n, n - 1, n - 2);
            is(x.of(0, 3), mod(2 * n - 3, n));
            is(Rooms.ofSize(n, n - 1, 1).of(0, 3), 0);
            is(x.adder(0, n - 1), 0);
            is(x.adder(0, n), -6);
            x.turn(0, 12);
            for (int what = 0; what < 3; what++) {
                is(x.turned(0, what), mod(12 * x.of(0, what), n));
            }
        }
    }

    private void points() {
        term("POINTS of a ROOM are the NUMBERS and one more, FAR, told as n.");
        for (int n : SIZES) {
            SquareRooms x = Rooms.ofSize(n);
            for (int point = 1; point <= n; point++) {
                is(x.cell(0, 0, point, 0), point == 1 ? 0 : 1);
                is(x.at(0, 0, 1), point);
                is(x.where(0, point), 0);
            }
            ofSize(n).refuses(-6, y -> y.cell(0, 0, n + 1, 0));
            ofSize(n).refuses(-4, y -> y.cell(0, 0, 0, -1));
            is(x.size(n), n);
            for (int d = 1; d <= n / 2; d++) {
                x.pair(d, n - d);
            }
            x.build();
            for (int i = 0; i < n; i++) {
                is(x.at(i, i, 1), n);
            }
        }
    }

    private void pairs() {
        term("PAIRS 0, 1, .., as they come, (n less 1) / 2 at most:");
        for (int n : SIZES) {
            SquareRooms x = Rooms.ofSize(n);
            for (int k = 0; k < n / 2; k++) {
                is(x.pair(n - 1 - k, 1), k);
            }
            for (int k = 0; k < n / 2; k++) {
                is(x.of(k, 0), n - 1 - k);
            }
            is(x.pair(1, 2), -6);
            is(x.count(1), n / 2);
        }
        term("two unlike NUMBERS that aren't 0, the FIRST and the SECOND one.");
        for (int n : SIZES) {
            ofSize(n).refuses(-4, x -> x.pair(0, n - 1));
            ofSize(n).refuses(-4, x -> x.pair(n - 1, 0));
            ofSize(n).refuses(-3, x -> x.pair(n - 1, n - 1));
            is(Rooms.ofSize(n, n - 1, 1).of(0, 0), n - 1);
            is(Rooms.ofSize(n, n - 1, 1).of(0, 1), 1);
            is(Rooms.ofSize(n, 1, n - 1).of(0, 0), 1);
        }
        term("Each PAIR has an ADDER, a NUMBER (0 at first).");
        for (int n : SIZES) {
            SquareRooms x = Rooms.starter(n);
            for (int k = 0; k < n / 2; k++) {
                is(x.of(k, 2), 0);
            }
            for (int v = 1; v < n; v++) {
                is(x.adder(0, v), v - 1);
            }
            is(x.adder(0, n), -6);
            is(x.adder(0, -1), -4);
            is(x.of(0, 2), n - 1);
        }
    }

    private void whole() {
        term("THE PAIRS are WHOLE, if there are (n less 1) / 2 of them.");
        for (int n : SIZES) {
            SquareRooms x = Rooms.ofSize(n);
            for (int k = 0; k < n / 2; k++) {
                is(x.is(0), 0);
                x.pair(1, 2);
            }
            is(x.is(0), 1);
            x.drop();
            is(x.is(0), 0);
        }
    }

    private void starter() {
        term("A STARTER: they are WHOLE, each NUMBER but 0 stands in one PAIR, and each NUMBER but 0 is FIRST less "
            + "SECOND, or SECOND less FIRST, of one PAIR.");
        for (int n : SIZES) {
            SquareRooms book = Rooms.starter(n);
            is(book.is(1), 1);
            book.drop();
            is(book.is(1), 0);
            SquareRooms otherWay = Rooms.ofSize(n);
            SquareRooms neighbours = Rooms.ofSize(n);
            SquareRooms fromOne = Rooms.ofSize(n);
            for (int d = 1; d <= n / 2; d++) {
                otherWay.pair(n / 2 + d, n / 2 + 1 - d);
                neighbours.pair(2 * d - 1, 2 * d);
                fromOne.pair(1, 1 + d);
            }
            is(otherWay.is(1), 1);
            // of SIZE 3 they are one and the same PAIR; else all NUMBERS, one difference, and the other way round
            is(neighbours.is(1), n == 3 ? 1 : 0);
            is(fromOne.is(1), n == 3 ? 1 : 0);
        }
    }

    private void areSuch(SquareRooms x, int starter, int strong, int skew) {
        is(x.is(1), starter);
        is(x.is(2), strong);
        is(x.is(3), skew);
    }

    private static SquareRooms strongOf13() {
        return Rooms.ofSize(13, 1, 2, 3, 6, 4, 11, 5, 9, 7, 12, 8, 10);
    }

    private void strong() {
        term("STRONG: a STARTER, and SUMS (FIRST plus SECOND) of all PAIRS are unlike, none 0.");
        is(Rooms.ofSize(7, 1, 3, 2, 6, 4, 5).is(2), 1);
        is(Rooms.ofSize(11, 1, 2, 3, 6, 4, 8, 5, 10, 7, 9).is(2), 1);
        is(strongOf13().is(2), 1);
        // SUMS 3 1 1 4; 4 7 2 5 4; 3 9 2 2 3 7; of the BOOK all 0
        areSuch(Rooms.ofSize(9, 1, 2, 3, 7, 4, 6, 5, 8), 1, 0, 0);
        areSuch(Rooms.ofSize(11, 1, 3, 2, 5, 4, 9, 6, 10, 7, 8), 1, 0, 0);
        areSuch(Rooms.ofSize(13, 1, 2, 3, 6, 4, 11, 5, 10, 7, 9, 8, 12), 1, 0, 0);
        for (int n : SIZES) {
            areSuch(Rooms.starter(n), 1, 0, 0);
        }
        // SUMS 3 7 2 6, but no STARTER; and not WHOLE
        areSuch(Rooms.ofSize(9, 1, 2, 3, 4, 5, 6, 7, 8), 0, 0, 0);
        areSuch(Rooms.ofSize(7, 1, 3, 2, 6), 0, 0, 0);
        areSuch(Rooms.ofSize(3), 0, 0, 0);
    }

    private void skew() {
        term("SKEW: STRONG, and no SUM is 0 less a SUM (another one's, or its own).");
        areSuch(Rooms.ofSize(7, 1, 3, 2, 6, 4, 5), 1, 1, 1);
        areSuch(Rooms.ofSize(11, 9, 7, 3, 6, 8, 4, 5, 10, 2, 1), 1, 1, 1);
        areSuch(strongOf13(), 1, 1, 1);
        // SUMS 2 2, none is 0 less another; but no STARTER
        areSuch(Rooms.ofSize(5, 3, 4, 4, 3), 0, 0, 0);
    }

    private static SquareRooms withAdders(SquareRooms x, int... adders) {
        for (int k = 0; k < adders.length; k++) {
            x.adder(k, adders[k]);
        }
        return x;
    }

    private void added() {
        term("ADDED: a STARTER, all ADDERS are unlike, none 0, and FIRST plus ADDER, SECOND plus ADDER of all PAIRS "
            + "are all NUMBERS but 0.");
        is(withAdders(Rooms.starter(7), 5, 3, 6).is(4), 1);
        is(withAdders(Rooms.starter(11), 8, 6, 2, 10, 7).is(4), 1);
        is(withAdders(Rooms.starter(13), 3, 5, 9, 1, 6, 2).is(4), 1);
        is(withAdders(Rooms.starter(13), 4, 6, 12, 10, 2, 5).is(4), 1);
        // all NUMBERS, but ADDERS alike; or one that is 0
        is(withAdders(Rooms.ofSize(9, 1, 2, 3, 6, 4, 8, 5, 7), 1, 1, 6, 1).is(4), 0);
        is(withAdders(Rooms.ofSize(11, 1, 2, 3, 6, 4, 8, 5, 10, 7, 9), 1, 4, 8, 10, 10).is(4), 0);
        is(withAdders(Rooms.ofSize(11, 1, 2, 3, 6, 4, 8, 5, 10, 7, 9), 0, 4, 1, 9, 8).is(4), 0);
        is(withAdders(Rooms.ofSize(11, 1, 2, 3, 6, 4, 8, 5, 10, 7, 9), 3, 0, 5, 2, 1).is(4), 0);
        // unlike ADDERS, none 0, but a NUMBER becomes 0; or two alike
        is(withAdders(Rooms.starter(7), 6, 3, 5).is(4), 0);
        is(withAdders(Rooms.starter(7), 2, 3, 1).is(4), 0);
        // all of this, but no STARTER: one PAIR thrice; all NUMBERS, one difference
        is(withAdders(Rooms.ofSize(7, 2, 3, 2, 3, 2, 3), 6, 1, 3).is(4), 0);
        is(withAdders(Rooms.ofSize(9, 1, 2, 3, 4, 5, 6, 7, 8), 2, 4, 5, 7).is(4), 0);
        // a PAIR less than WHOLE
        SquareRooms x = withAdders(Rooms.starter(13), 3, 5, 9, 1, 6, 2);
        x.drop();
        is(x.is(4), 0);
        for (int n : SIZES) {
            is(Rooms.ofSize(n).is(4), 0);
        }
    }

    // ---- the room

    private void theRoom() {
        term("THE ROOM has n rows and n columns, each CELL empty or with two unlike POINTS (the lesser told first).");
        for (int n : SIZES) {
            SquareRooms x = Rooms.ofSize(n);
            for (int place = 0; place < n * n; place++) {
                is(x.cell(place / n, place % n, place % 2 == 0 ? n : n - 1, n - 1 + place % 2), 0);
            }
            is(x.count(3), n * n);
            is(x.at(n - 1, n - 1, 0), n - 1);
            is(x.at(n - 1, n - 2, 0), n - 1);
            is(x.at(0, 0, 1), n);
            is(x.at(n, 0, 0), -1);
            is(x.at(0, n, 0), -1);
            is(x.cell(0, 0, n, n), -3);
        }
    }

    private void cellIs(SquareRooms x, int r, int c, int lesser, int greater) {
        is(x.at(r, c, 0), lesser);
        is(x.at(r, c, 1), greater);
    }

    private void built() {
        term("BUILT of WHOLE PAIRS: all CELLS are empty; then, row by row i: at column i: FAR and i; of PAIR k, by "
            + "numbers: at column i less its ADDER: FIRST plus i and SECOND plus i;");
        SquareRooms x = withAdders(Rooms.ofSize(3, 1, 2), 1);
        x.cell(0, 1, 0, 1);
        x.cell(0, 0, 1, 2);
        is(x.build(), 0);
        int[][] due = {{0, 3}, {-9, -9}, {1, 2}, {0, 2}, {1, 3}, {-9, -9}, {-9, -9}, {0, 1}, {2, 3}};
        for (int place = 0; place < 9; place++) {
            cellIs(x, place / 3, place % 3, due[place][0], due[place][1]);
        }
        x.adder(0, 2);
        is(x.build(), 0);
        int[][] dueThen = {{0, 3}, {1, 2}, {-9, -9}, {-9, -9}, {1, 3}, {0, 2}, {0, 1}, {-9, -9}, {2, 3}};
        for (int place = 0; place < 9; place++) {
            cellIs(x, place / 3, place % 3, dueThen[place][0], dueThen[place][1]);
        }
        SquareRooms large = withAdders(Rooms.starter(13), 3, 5, 9, 1, 6, 2);
        is(large.build(), 0);
        is(large.count(3), 91);
        cellIs(large, 0, 10, 1, 12);
        cellIs(large, 12, 9, 0, 11);
        cellIs(large, 12, 10, 5, 6);
        cellIs(large, 12, 12, 12, 13);
        term("where a CELL isn't empty, what comes isn't laid: it is LOST (counted).");
        SquareRooms alike = withAdders(Rooms.ofSize(5, 1, 4, 2, 3), 2, 2);
        is(alike.build(), 5);
        is(alike.count(3), 10);
        cellIs(alike, 0, 3, 1, 4);
        is(withAdders(alike, 0, 2).build(), 5);
        cellIs(alike, 0, 3, 2, 3);
        cellIs(alike, 0, 0, 0, 5);
        is(withAdders(alike, 0, 0).build(), 10);
        is(alike.count(3), 5);
        is(withAdders(alike, 4, 1).build(), 0);
        is(alike.count(3), 15);
    }

    /** FAULTS that are due of row 1 and column 1, and of PAIRS of POINTS. */
    private void faultsAre(SquareRooms x, int row, int column, int pairs) {
        is(x.faults(0, 1), row);
        is(x.faults(1, 1), column);
        is(x.faults(2, 0), pairs);
    }

    private void faults() {
        term("FAULTS of a row: POINTS that don't stand in it just once; of a column likewise;");
        SquareRooms x = Rooms.ofSize(3);
        faultsAre(x, 4, 4, 6);
        x.cell(1, 1, 0, 1);
        faultsAre(x, 2, 2, 5);
        x.cell(1, 0, 2, 3);
        faultsAre(x, 0, 2, 4);
        x.cell(1, 2, 3, 0);
        faultsAre(x, 2, 2, 3);
        x.cell(1, 1, 1, 3);
        is(x.faults(0, 1), 1);
        x.cell(0, 1, 0, 2);
        is(x.faults(1, 1), 0);
        x.cell(2, 1, 0, 3);
        is(x.faults(1, 1), 2);
        x.cell(0, 1, 0, 3);
        x.cell(1, 1, 0, 3);
        is(x.faults(1, 1), 4);
        x.cell(1, 1, -1, 0);
        is(x.faults(1, 1), 4);
        is(x.faults(0, 1), 2);
        // twice, and then others
        SquareRooms wide = Rooms.ofSize(5);
        for (int j = 0; j < 3; j++) {
            wide.cell(1, 1 + j, j == 2 ? 3 : 0, j == 2 ? 4 : 1 + j);
            wide.cell(1 + j, 1, j == 2 ? 3 : 0, j == 2 ? 4 : 1 + j);
        }
        is(wide.faults(0, 1), 2);
        is(wide.faults(1, 1), 2);
        term("of PAIRS of POINTS: those unlike two that don't stand together in just one CELL.");
        for (int n : SIZES) {
            SquareRooms y = Rooms.ofSize(n);
            int all = n * (n + 1) / 2;
            is(y.faults(2, 0), all);
            int[] due = {1, 0, 0};
            for (int i = 0; i < 3; i++) {
                y.cell(i, n - 1, i == 1 ? 0 : n, i == 1 ? n : 0);
                is(y.faults(2, 0), all - due[i]);
            }
            y.cell(1, n - 1, n - 1, n);
            y.cell(0, n - 1, -1, 0);
            is(y.faults(2, 0), all - 2);
        }
        // no CELL is empty; just one; two
        SquareRooms filled = Rooms.ofSize(3);
        for (int place = 0; place < 9; place++) {
            filled.cell(place / 3, place % 3, place % 3, 3);
        }
        is(filled.faults(2, 0), 6);
        filled.cell(2, 2, -1, 0);
        is(filled.faults(2, 0), 6);
        filled.cell(1, 2, -1, 0);
        is(filled.faults(2, 0), 5);
        term("It is a ROOM indeed, if there are no FAULTS of any of these.");
        is(withAdders(Rooms.starter(7), 2, 4, 1).indeed(), 0);
        is(builtBook().indeed(), 1);
        SquareRooms large = withAdders(Rooms.starter(13), 3, 5, 9, 1, 6, 2);
        large.build();
        is(large.indeed(), 1);
        // one to another column: rows and PAIRS stay right; to another row: columns and PAIRS; another PAIR of POINTS
        is(moved(0, 0, 0, 1).indeed(), 0);
        is(moved(0, 0, 1, 0).indeed(), 0);
        is(moved(6, 6, 6, 0).indeed(), 0);
        is(moved(0, 0, 0, 0).indeed(), 1);
        SquareRooms alike = Rooms.ofSize(5);
        for (int place = 0; place < 15; place++) {
            alike.cell(place / 3, (place / 3 + place % 3) % 5, 2 * (place % 3), 2 * (place % 3) + 1);
        }
        for (int k = 0; k < 5; k++) {
            is(alike.faults(0, k) + alike.faults(1, k), 0);
        }
        is(alike.indeed(), 0);
    }

    private static SquareRooms builtBook() {
        SquareRooms x = Rooms.bookTurned();
        x.build();
        return x;
    }

    /** The BOOK's ROOM of 7, what stands in one CELL moved to another one. */
    private static SquareRooms moved(int r, int c, int toRow, int toColumn) {
        SquareRooms x = builtBook();
        int lesser = x.at(r, c, 0);
        int greater = x.at(r, c, 1);
        x.cell(r, c, -1, 0);
        x.cell(toRow, toColumn, lesser, greater);
        return x;
    }

    private void faced() {
        term("FACED: how many CELLS (r, c), r and c unlike, are filled, or empty, just as CELL (c, r) is "
            + "(each of both counts).");
        for (int n : SIZES) {
            SquareRooms x = Rooms.ofSize(n);
            int all = n * (n - 1);
            is(x.faced(), all);
            x.cell(n - 1, 0, 0, 1);
            is(x.faced(), all - 2);
            x.cell(n - 1, n - 1, 0, 1);
            is(x.faced(), all - 2);
            x.cell(0, n - 1, 2, 3);
            is(x.faced(), all);
            x.cell(1, 2, 2, 3);
            x.cell(1, 0, 2, 3);
            is(x.faced(), all - 4);
        }
        is(Rooms.full().faced(), 6);
    }

    // ---- fractions and refusals

    private void fractions() {
        term("Fractions are told in least terms; 0 as 0 by 1.");
        long[][] due = {{0, 1}, {0, 1}, {2, 3}, {0, 1}, {4, 25}};
        for (int i = 0; i < due.length; i++) {
            int n = SIZES[i];
            ofSize(n).asks(due[i][0], x -> x.odds(0));
            ofSize(n).asks(due[i][1], x -> x.odds(1));
        }
    }

    private void refusals() {
        term("REFUSALS (the call answers the number, the first that fits in the order in which it tells them; nothing "
            + "changes but how many there were):");
        Made full = new Made(told, Rooms::full);
        Made large = ofSize(13);
        full.refuses(-4, x -> x.letter(-1));
        anywhere.refuses(-4, x -> x.size(2));
        anywhere.refuses(-6, x -> x.size(14));
        full.refuses(-4, x -> x.pair(0, 9));
        full.refuses(-4, x -> x.pair(-1, -1));
        full.refuses(-6, x -> x.pair(1, 1));
        anywhere.refuses(-1, x -> x.adder(6, -1));
        anywhere.refuses(-1, x -> x.adder(6, 99));
        anywhere.refuses(-1, x -> x.of(6, 9));
        large.refuses(-4, x -> x.right(-1));
        large.refuses(-6, x -> x.right(7));
        anywhere.refuses(-1, x -> x.cell(0, 13, -2, 99));
        anywhere.refuses(-4, x -> x.cell(0, 0, -2, 99));
        anywhere.refuses(-4, x -> x.cell(0, 0, -2, -2));
        anywhere.refuses(-6, x -> x.cell(0, 0, 99, 99));
        anywhere.refuses(-1, x -> x.at(13, 0, 9));
        anywhere.refuses(-2, x -> x.faults(3, 13));
        anywhere.refuses(-4, x -> x.where(99, -1));
        anywhere.refuses(-4, x -> x.where(-1, -1));
        anywhere.refuses(-6, x -> x.where(99, 99));
        large.refuses(-4, x -> x.starters(-2, 6));
        large.refuses(-3, x -> x.starters(0, 6));
        large.refuses(-2, x -> x.strong(2));
        large.refuses(-4, x -> x.adders(-2, 6));
        large.refuses(-3, x -> x.adders(0, 6));
        large.refuses(LONGS + 2, x -> x.odds(2));
        large.refuses(-4, x -> x.lots(0, 1, 2));
        large.refuses(-6, x -> x.lots(51, 1, 2));
        large.refuses(-2, x -> x.lots(50, 1, 2));
        full.refuses(-2, x -> x.turn(6, -1));
        full.refuses(-2, x -> x.turn(6, 13));
        full.refuses(-4, x -> x.turn(5, -1));
        anywhere.refuses(-1, x -> x.turned(6, 3));
        anywhere.refuses(-1, x -> x.list(3, 41));
        anywhere.refuses(-1, x -> x.list(3, -1));
        anywhere.refuses(-1, x -> x.put(3, 99, 0));
        fresh.refuses(-11, x -> x.put(0, 99, 0));
        fresh.refuses(LONGS + 11, x -> x.look(0, 99));
        anywhere.refuses(-1, x -> x.lays(3, 99));
        fresh.refuses(-11, x -> x.lays(0, 99));
        many();
    }

    /** As many as an object has calls for. */
    private void many() {
        SquareRooms x = new SquareRooms();
        for (int i = 0; i < 85; i++) {
            is(x.of(0, 0), -1);
            is(x.is(5), -2);
            is(x.drop(), -3);
            is(x.size(2), -4);
            is(x.size(14), -6);
            is(x.lays(0, 0), -11);
        }
        is(x.count(13), 85);
        is(x.count(16), 85);
    }

    private void kindsOfRefusals() {
        term("-1 NOBODY: no such PAIR, CELL, LIST.");
        anywhere.refuses(-1, x -> x.of(1, 0));
        anywhere.refuses(-1, x -> x.at(7, 0, 0));
        anywhere.refuses(-1, x -> x.judge(3));
        term("-2 OTHER: what, KIND, part.");
        anywhere.refuses(-2, x -> x.is(5));
        anywhere.refuses(-2, x -> x.turn(6, 0));
        anywhere.refuses(LONGS + 2, x -> x.odds(2));
        term("-3 STATE: it is not as it must be.");
        fresh.refuses(-3, SquareRooms::drop);
        fresh.refuses(-3, SquareRooms::on);
        anywhere.refuses(-3, x -> x.size(4));
        term("-4 BELOW: a number below the least.");
        anywhere.refuses(-4, x -> x.size(2));
        anywhere.refuses(-4, x -> x.turn(0, -1));
        term("-6 ROOM: a number above the greatest, no room.");
        anywhere.refuses(-6, x -> x.size(14));
        new Made(told, Rooms::full).refuses(-6, x -> x.pair(1, 2));
        new Made(told, Rooms::full).refuses(-6, x -> x.turn(0, 1));
        new Made(told, Rooms::full).refuses(-6, x -> x.letter(1));
    }

    private void ofLongs() {
        term("Of longs 4000000000000000000 less them (-1 as 4000000000000000001; -11, -13 likewise).");
        anywhere.refuses(4000000000000000001L, x -> x.look(3, 0));
        anywhere.refuses(4000000000000000002L, x -> x.odds(-1));
        ofSize(13).refuses(4000000000000000003L, x -> x.odds(0));
        fresh.refuses(4000000000000000011L, x -> x.look(2, 0));
        Made listed = new Made(told, () -> Rooms.filled(new SquareRooms(), 2, LOW, HIGH));
        listed.refuses(4000000000000000013L, x -> x.look(2, 2));
        listed.refuses(4000000000000000013L, x -> x.look(2, -1));
        listed.asks(LOW, x -> x.look(2, 0));
        listed.asks(HIGH, x -> x.look(2, 1));
        term("Not counted: of LISTS -11 it is missing, -13 no such place, -14 a size below 0.");
        fresh.refuses(-11, x -> x.put(0, 0, 0));
        fresh.refuses(-11, x -> x.lays(1, 0));
        fresh.refuses(-11, x -> x.judge(2));
        fresh.refuses(-11, x -> x.sizes(2));
        listed.refuses(-13, x -> x.put(2, 2, 0));
        new Made(told, Rooms::full).refuses(-13, x -> x.lays(1, 39));
        anywhere.refuses(-14, x -> x.list(0, -1));
    }
}
