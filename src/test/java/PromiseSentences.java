/** Promise by promise, sentence by sentence: the edges that each names, on either side. */
final class PromiseSentences {
    private static final int LOW = Integer.MIN_VALUE;
    private static final int HIGH = Integer.MAX_VALUE;
    private static final long LONGS = 4000000000000000000L;
    private static final int[] SIZES = {3, 5, 7, 9, 11, 13};
    private static final int[] SEARCHED = {3, 5, 7, 9, 11};
    private static final int[] STARTERS = {1, 1, 3, 9, 25};
    /** ADDERS of the BOOK's PAIRS, and STRONG STARTERS (SKEW ones too): as many for each of SEARCHED. */
    private static final int[] ADDERS_OF_BOOK = {0, 0, 2, 0, 4};
    private static final int[] ANY = {LOW, -1, 0, 1, 14, HIGH};

    private final Sentences told;
    private final Made fresh;
    private final Made busy;
    private final Made full;
    private final Made anywhere;

    PromiseSentences(Sentences told) {
        this.told = told;
        fresh = new Made(told, SquareRooms::new);
        busy = new Made(told, Rooms::busy);
        full = new Made(told, Rooms::full);
        anywhere = new Made(told, SquareRooms::new, Rooms::busy, Rooms::full);
    }

    void all() {
        newObject();
        letter();
        text();
        size();
        pair();
        drop();
        adder();
        of();
        is();
        book();
        right();
        theRoom();
        searches();
        theTurns();
        theLists();
        theImage();
    }

    private void theRoom() {
        build();
        cell();
        at();
        faults();
        indeed();
        faced();
        where();
    }

    private void searches() {
        starters();
        strong();
        adders();
        odds();
        lots();
    }

    private void theTurns() {
        turn();
        still();
        turned();
        turns();
    }

    private void theLists() {
        list();
        put();
        look();
        lays();
        judge();
        sizes();
    }

    private void theImage() {
        undo();
        image();
        on();
        count();
    }

    private void promise(int number, String sentence) {
        told.promise(number, sentence);
    }

    private void is(long got, long want) {
        told.is(got, want);
    }

    private Made ofSize(int n, int... numbers) {
        return new Made(told, () -> Rooms.ofSize(n, numbers));
    }

    private Made starter(int n) {
        return new Made(told, () -> Rooms.starter(n));
    }

    // ---- pairs

    private void newObject() {
        promise(1, "SIZE 7, no PAIRS, no TURNS, THE ROOM empty.");
        SquareRooms x = new SquareRooms();
        long[] counts = {7, 0, 0, 0, 0, 0, -9, -9, -9, -9, -9, 0, 0, 0, 0, 0, 0, -9};
        for (int what = 0; what < counts.length; what++) {
            is(x.count(what), counts[what]);
        }
        for (int place = 0; place < 49; place++) {
            is(x.at(place / 7, place % 7, 0), -9);
        }
        for (int what = 0; what <= 4; what++) {
            is(x.is(what), 0);
        }
        fresh.refuses(-1, y -> y.of(0, 0));
        fresh.refuses(-1, y -> y.at(7, 0, 0));
        fresh.refuses(-1, y -> y.at(0, 7, 0));
        fresh.takes(7, y -> y.size(7));
    }

    private void letter() {
        promise(2, "A letter (0 .. 255) comes: how many there are.");
        SquareRooms x = new SquareRooms();
        for (int i = 0; i < 72; i++) {
            is(x.letter(i % 2 == 0 ? 0 : 255), i + 1);
            is(x.count(4), i + 1);
        }
        promise(2, "-4;");
        for (int c : new int[] {-1, -2, -255, LOW}) {
            anywhere.refuses(-4, y -> y.letter(c));
        }
        promise(2, "-6 (255; 72, too).");
        for (int c : new int[] {256, 257, 511, HIGH}) {
            anywhere.refuses(-6, y -> y.letter(c));
        }
        for (int c : new int[] {0, 'n', 255}) {
            full.refuses(-6, y -> y.letter(c));
        }
        is(x.letter(1), -6);
        is(x.count(4), 72);
        x.text();
        is(x.letter(1), 1);
    }

    private void text() {
        promise(3, "The letters become a TEXT, and are no more (with a FAULT neither): how many STATEMENTS; "
            + "the FAULT (not counted).");
        SquareRooms x = Rooms.full();
        is(x.text(), 18);
        is(x.count(4), 0);
        is(x.text(), -1000);
        is(Rooms.told(x, "n11;"), 1);
        Made noLetters = new Made(told, SquareRooms::new, Rooms::busy);
        noLetters.asks(-1000, SquareRooms::text);
        noLetters.asks(-1003, y -> Rooms.told(y, "t51"));
        noLetters.asks(-2000, y -> Rooms.told(y, "n14;n03;"));
        noLetters.asks(-2005, y -> Rooms.told(y, "t101;n02;"));
    }

    private void size() {
        promise(4, "SIZE becomes n, no PAIRS, no TURNS, THE ROOM empty: what it was.");
        int was = 5;
        SquareRooms x = Rooms.busy();
        for (int n : new int[] {3, 5, 7, 9, 11, 13, 13, 3}) {
            is(x.size(n), was);
            was = n;
            is(x.count(0), n);
            is(x.count(1), 0);
            is(x.count(2), 0);
            is(x.count(3), 0);
            x.pair(1, 2);
            x.turn(0, 1);
            x.cell(n - 1, n - 1, n, n - 1);
            is(x.count(3), 1);
        }
        anywhere.takes(0, y -> y.size(13) < 0 ? 1 : y.count(3));
        promise(4, "-4 3;");
        for (int n : new int[] {2, 1, 0, -1, -3, LOW}) {
            anywhere.refuses(-4, y -> y.size(n));
        }
        promise(4, "-6 13;");
        for (int n : new int[] {14, 15, 16, HIGH}) {
            anywhere.refuses(-6, y -> y.size(n));
        }
        promise(4, "-3 it is even.");
        for (int n = 4; n <= 12; n += 2) {
            int even = n;
            anywhere.refuses(-3, y -> y.size(even));
        }
    }

    private void pair() {
        promise(5, "A PAIR more, its ADDER 0: its number.");
        for (int n : SIZES) {
            SquareRooms x = Rooms.ofSize(n);
            for (int k = 0; k < n / 2; k++) {
                is(x.pair(n - 1, 1), k);
                is(x.of(k, 2), 0);
                x.adder(k, n - 1);
            }
            x.drop();
            is(x.pair(1, n - 1), n / 2 - 1);
            is(x.of(n / 2 - 1, 0), 1);
            is(x.of(n / 2 - 1, 1), n - 1);
            is(x.of(n / 2 - 1, 2), 0);
        }
        promise(5, "-4 (x, y 1);");
        for (int low : new int[] {0, -1, LOW}) {
            for (int other : ANY) {
                anywhere.refuses(-4, y -> y.pair(low, other));
                anywhere.refuses(-4, y -> y.pair(other, low));
            }
        }
        promise(5, "-6 (n less 1; WHOLE);");
        for (int n : SIZES) {
            Made empty = ofSize(n);
            empty.refuses(-6, y -> y.pair(n, 1));
            empty.refuses(-6, y -> y.pair(1, n));
            empty.refuses(-6, y -> y.pair(n, n));
            empty.refuses(-6, y -> y.pair(1, HIGH));
            empty.refuses(-6, y -> y.pair(HIGH, n - 1));
            Made whole = starter(n);
            whole.refuses(-6, y -> y.pair(1, 2));
            whole.refuses(-6, y -> y.pair(2, 2));
            whole.refuses(-6, y -> y.pair(n, n));
        }
        promise(5, "-3 both are one.");
        for (int n : SIZES) {
            ofSize(n).refuses(-3, y -> y.pair(1, 1));
            ofSize(n).refuses(-3, y -> y.pair(n - 1, n - 1));
        }
        busy.refuses(-3, y -> y.pair(2, 2));
    }

    private void drop() {
        promise(6, "The last PAIR goes: how many there are.");
        for (int n : SIZES) {
            SquareRooms x = Rooms.starter(n);
            for (int k = n / 2 - 1; k >= 0; k--) {
                is(x.drop(), k);
                is(x.count(1), k);
                is(x.of(k, 0), -1);
                if (k > 0) {
                    is(x.of(k - 1, 0), k);
                }
            }
        }
        promise(6, "-3 there is none.");
        fresh.refuses(-3, SquareRooms::drop);
        for (int n : SIZES) {
            ofSize(n).refuses(-3, SquareRooms::drop);
        }
        full.takes(0, SquareRooms::drop);
        new Made(told, PromiseSentences::dropped).refuses(-3, SquareRooms::drop);
    }

    private static SquareRooms dropped() {
        SquareRooms x = Rooms.busy();
        x.drop();
        return x;
    }

    private void adder() {
        promise(7, "The ADDER of a PAIR becomes v: what it was.");
        for (int n : SIZES) {
            SquareRooms x = Rooms.starter(n);
            int last = n / 2 - 1;
            is(x.adder(last, n - 1), 0);
            is(x.adder(last, 0), n - 1);
            is(x.adder(last, 1), 0);
            is(x.adder(0, n - 1), last == 0 ? 1 : 0);
            is(x.of(0, 2), n - 1);
            is(x.of(last, 2), last == 0 ? n - 1 : 1);
        }
        promise(7, "-1;");
        for (int k : new int[] {-1, LOW, 3, HIGH}) {
            for (int v : ANY) {
                anywhere.refuses(-1, y -> y.adder(k, v));
            }
        }
        fresh.refuses(-1, y -> y.adder(0, 0));
        for (int n : SIZES) {
            starter(n).refuses(-1, y -> y.adder(n / 2, 0));
        }
        promise(7, "-4;");
        for (int n : SIZES) {
            starter(n).refuses(-4, y -> y.adder(0, -1));
            starter(n).refuses(-4, y -> y.adder(n / 2 - 1, LOW));
        }
        promise(7, "-6 n less 1.");
        for (int n : SIZES) {
            starter(n).refuses(-6, y -> y.adder(0, n));
            starter(n).refuses(-6, y -> y.adder(n / 2 - 1, HIGH));
        }
    }

    private void of() {
        promise(8, "Of a PAIR: 0 FIRST, 1 SECOND, 2 ADDER, 3 SUM, 4 the lesser of its two differences (as NUMBERS).");
        for (int n : SIZES) {
            SquareRooms x = Rooms.ofSize(n, n - 1, 1);
            x.adder(0, n - 1);
            long[] due = {n - 1, 1, n - 1, 0, n == 3 ? 1 : 2};
            for (int what = 0; what <= 4; what++) {
                is(x.of(0, what), due[what]);
            }
            // the greatest that the lesser difference can be
            is(Rooms.ofSize(n, 1, 1 + n / 2).of(0, 4), n / 2);
            is(Rooms.ofSize(n, 1 + n / 2, 1).of(0, 4), n / 2);
            is(Rooms.ofSize(n, n - 1, n - 2).of(0, 4), 1);
            is(Rooms.ofSize(n, n - 1, n - 2).of(0, 3), n - 3);
        }
        promise(8, "-1;");
        for (int k : new int[] {-1, LOW, 3, HIGH}) {
            for (int what : ANY) {
                anywhere.refuses(-1, y -> y.of(k, what));
            }
        }
        fresh.refuses(-1, y -> y.of(0, 0));
        for (int n : SIZES) {
            starter(n).refuses(-1, y -> y.of(n / 2, 0));
            starter(n).asks(n / 2, y -> y.of(n / 2 - 1, 0));
        }
        promise(8, "-2.");
        for (int what : new int[] {-1, LOW, 5, HIGH}) {
            busy.refuses(-2, y -> y.of(0, what));
            full.refuses(-2, y -> y.of(0, what));
        }
    }

    private void is() {
        promise(9, "Whether it is WHOLE (what 0), a STARTER (1), STRONG (2), SKEW (3), ADDED (4): 1, 0.");
        for (int n : SIZES) {
            for (int what = 0; what <= 4; what++) {
                int asked = what;
                starter(n).asks(what < 2 ? 1 : 0, y -> y.is(asked));
                ofSize(n).asks(0, y -> y.is(asked));
            }
        }
        Made strong = ofSize(7, 3, 1, 6, 2, 4, 5);
        long[] due = {1, 1, 1, 1, 0};
        for (int what = 0; what <= 4; what++) {
            int asked = what;
            strong.asks(due[what], y -> y.is(asked));
        }
        new Made(told, () -> Rooms.bookTurned()).asks(1, y -> y.is(4));
        promise(9, "-2.");
        for (int what : new int[] {-1, LOW, 5, HIGH}) {
            anywhere.refuses(-2, y -> y.is(what));
        }
    }

    private void book() {
        promise(10, "THE PAIRS are those of the BOOK, with its ADDERS: how many.");
        int[][] adders = {{0}, {0, 0}, {2, 4, 1}, {0, 0, 0, 0}, {3, 5, 9, 1, 4}};
        for (int[] row : adders) {
            int n = 2 * row.length + 1;
            SquareRooms x = Rooms.starter(n);
            x.adder(0, 1);
            for (int again = 0; again < 2; again++) {
                is(x.book(), row.length);
                for (int k = 0; k < row.length; k++) {
                    is(x.of(k, 0), k + 1);
                    is(x.of(k, 1), n - k - 1);
                    is(x.of(k, 2), row[k]);
                }
                x.drop();
            }
        }
        promise(10, "-6 n above 11.");
        ofSize(11).takes(5, SquareRooms::book);
        ofSize(13).refuses(-6, SquareRooms::book);
        ofSize(13, 2, 1).refuses(-6, SquareRooms::book);
    }

    private void right() {
        promise(11, "SHIFT d (RIGHT to BOOK); d 0: whether these are RIGHT (1, 0).");
        for (int n : SIZES) {
            for (int d = 0; d <= n / 2; d++) {
                int asked = d;
                starter(n).asks(0, y -> y.right(asked));
            }
        }
        Made right = ofSize(7, 3, 1, 2, 6, 4, 5);
        long[] due = {1, 1, 2, 4};
        for (int d = 0; d <= 3; d++) {
            int asked = d;
            right.asks(due[d], y -> y.right(asked));
        }
        promise(11, "-4;");
        for (int d : new int[] {-1, LOW}) {
            anywhere.refuses(-4, y -> y.right(d));
            starter(13).refuses(-4, y -> y.right(d));
        }
        promise(11, "-6 (n less 1) / 2;");
        for (int n : SIZES) {
            for (int d : new int[] {n / 2 + 1, n - 1, HIGH}) {
                int above = Math.max(d, n / 2 + 1);
                starter(n).refuses(-6, y -> y.right(above));
                ofSize(n).refuses(-6, y -> y.right(above));
            }
        }
        promise(11, "-3 no STARTER.");
        for (int n : SIZES) {
            for (int d : new int[] {0, 1, n / 2}) {
                ofSize(n).refuses(-3, y -> y.right(d));
            }
        }
        ofSize(7, 1, 6, 2, 5).refuses(-3, y -> y.right(0));
        ofSize(7, 1, 2, 3, 4, 5, 6).refuses(-3, y -> y.right(0));
        ofSize(7, 1, 2, 1, 3, 1, 4).refuses(-3, y -> y.right(3));
    }

    // ---- the room

    private void build() {
        promise(12, "THE ROOM is BUILT: how many are LOST.");
        for (int n : SIZES) {
            // with all ADDERS 0 every PAIR comes where FAR and i stand
            SquareRooms x = Rooms.starter(n);
            x.cell(0, n - 1, 0, 1);
            is(x.build(), n * (n / 2));
            is(x.count(3), n);
            is(x.build(), n * (n / 2));
        }
        SquareRooms book = Rooms.bookTurned();
        is(book.build(), 0);
        is(book.count(3), 28);
        promise(12, "-3 not WHOLE.");
        fresh.refuses(-3, SquareRooms::build);
        busy.refuses(-3, SquareRooms::build);
        for (int n : SIZES) {
            ofSize(n).refuses(-3, SquareRooms::build);
            new Made(told, () -> lessOne(n)).refuses(-3, SquareRooms::build);
        }
    }

    /** One PAIR less than WHOLE, THE ROOM as the BOOK's, where that can be. */
    private static SquareRooms lessOne(int n) {
        SquareRooms x = Rooms.starter(n);
        x.build();
        x.drop();
        return x;
    }

    private void cell() {
        promise(13, "A CELL becomes empty (x -1; y doesn't matter), or with two POINTS: 1 if it was filled, 0.");
        for (int n : SIZES) {
            SquareRooms x = Rooms.ofSize(n);
            int[] corners = {0, n - 1};
            for (int r : corners) {
                for (int c : corners) {
                    is(x.cell(r, c, n, 0), 0);
                    is(x.cell(r, c, 0, n), 1);
                    is(x.cell(r, c, n - 1, n), 1);
                    is(x.at(r, c, 0), n - 1);
                    is(x.at(r, c, 1), n);
                    is(x.cell(r, c, -1, n + 1), 1);
                    is(x.at(r, c, 0), -9);
                    is(x.cell(r, c, -1, -1), 0);
                    is(x.cell(r, c, 0, 1), 0);
                    is(x.cell(r, c, -1, LOW), 1);
                    is(x.cell(r, c, -1, HIGH), 0);
                }
            }
            is(x.count(3), 0);
        }
        promise(13, "-1 CELL;");
        for (int n : SIZES) {
            for (int out : new int[] {-1, LOW, n, HIGH}) {
                for (int x : new int[] {-1, 0, -2, n + 1}) {
                    ofSize(n).refuses(-1, y -> y.cell(out, 0, x, 1));
                    ofSize(n).refuses(-1, y -> y.cell(n - 1, out, x, x));
                }
            }
        }
        promise(13, "-4 (x below -1, y below 0);");
        for (int n : new int[] {3, 13}) {
            for (int low : new int[] {-2, LOW}) {
                for (int other : new int[] {0, n, n + 1, HIGH, low}) {
                    ofSize(n).refuses(-4, y -> y.cell(0, 0, low, other));
                }
            }
            for (int low : new int[] {-1, LOW}) {
                for (int other : new int[] {0, n, n + 1, HIGH}) {
                    ofSize(n).refuses(-4, y -> y.cell(0, 0, other, low));
                }
            }
        }
        full.refuses(-4, y -> y.cell(2, 2, -2, -2));
        promise(13, "-6 (above n);");
        for (int n : SIZES) {
            for (int high : new int[] {n + 1, HIGH}) {
                for (int other : new int[] {0, n, high}) {
                    ofSize(n).refuses(-6, y -> y.cell(0, n - 1, high, other));
                    ofSize(n).refuses(-6, y -> y.cell(n - 1, 0, other, high));
                }
            }
        }
        promise(13, "-3 both are one.");
        for (int n : SIZES) {
            for (int point : new int[] {0, 1, n - 1, n}) {
                ofSize(n).refuses(-3, y -> y.cell(n - 1, n - 1, point, point));
            }
        }
        full.refuses(-3, y -> y.cell(0, 0, 3, 3));
    }

    private void at() {
        promise(14, "The lesser (what 0), the greater POINT (1) in a CELL; -9 it is empty.");
        for (int n : SIZES) {
            ofSize(n).asks(-9, y -> y.at(0, 0, 0));
            ofSize(n).asks(-9, y -> y.at(n - 1, n - 1, 1));
            for (int swapped = 0; swapped < 2; swapped++) {
                SquareRooms x = Rooms.ofSize(n);
                x.cell(n - 1, 0, swapped * n, n - swapped * n);
                is(x.at(n - 1, 0, 0), 0);
                is(x.at(n - 1, 0, 1), n);
                is(x.at(0, n - 1, 0), -9);
                x.cell(n - 1, 0, -1, 0);
                is(x.at(n - 1, 0, 1), -9);
            }
        }
        promise(14, "-1;");
        for (int n : SIZES) {
            for (int out : new int[] {-1, LOW, n, HIGH}) {
                for (int what : new int[] {0, 1, 2, -1}) {
                    ofSize(n).refuses(-1, y -> y.at(out, 0, what));
                    ofSize(n).refuses(-1, y -> y.at(n - 1, out, what));
                }
            }
        }
        promise(14, "-2.");
        for (int what : new int[] {-1, LOW, 2, HIGH}) {
            anywhere.refuses(-2, y -> y.at(0, 0, what));
            anywhere.refuses(-2, y -> y.at(2, 2, what));
        }
    }

    private void faults() {
        promise(15, "FAULTS: of row k (what 0), column k (1), of PAIRS of POINTS (2; k doesn't matter).");
        for (int n : SIZES) {
            for (int k : new int[] {0, n - 1}) {
                ofSize(n).asks(n + 1, y -> y.faults(0, k));
                ofSize(n).asks(n + 1, y -> y.faults(1, k));
            }
            for (int k : new int[] {-1, 0, n, LOW, HIGH}) {
                ofSize(n).asks(n * (n + 1) / 2, y -> y.faults(2, k));
            }
        }
        promise(15, "-2;");
        for (int what : new int[] {-1, LOW, 3, HIGH}) {
            for (int k : ANY) {
                anywhere.refuses(-2, y -> y.faults(what, k));
            }
        }
        promise(15, "-1 k.");
        for (int n : SIZES) {
            for (int k : new int[] {-1, LOW, n, HIGH}) {
                ofSize(n).refuses(-1, y -> y.faults(0, k));
                ofSize(n).refuses(-1, y -> y.faults(1, k));
            }
        }
    }

    private void indeed() {
        promise(16, "Whether it is a ROOM indeed (1, 0).");
        anywhere.asks(0, SquareRooms::indeed);
        new Made(told, () -> built(7)).asks(1, SquareRooms::indeed);
        is(built(11).indeed(), 1);
        is(built(9).indeed(), 0);
    }

    private static SquareRooms built(int n) {
        SquareRooms x = Rooms.ofSize(n);
        x.book();
        x.build();
        return x;
    }

    private void faced() {
        promise(17, "FACED.");
        for (int n : SIZES) {
            ofSize(n).asks(n * (n - 1), SquareRooms::faced);
        }
        full.asks(6, SquareRooms::faced);
        is(built(7).faced(), 0);
    }

    private void where() {
        promise(18, "Where two POINTS stand together: 100 times the row, plus the column, the first by rows, "
            + "then columns; -9 nowhere.");
        for (int n : SIZES) {
            ofSize(n).asks(-9, y -> y.where(0, n));
            ofSize(n).asks(-9, y -> y.where(n, n - 1));
            SquareRooms x = Rooms.ofSize(n);
            int[][] places = {{n - 1, n - 1}, {n - 1, 0}, {0, n - 1}, {0, 0}};
            for (int[] place : places) {
                x.cell(place[0], place[1], n, 0);
                is(x.where(0, n), 100 * place[0] + place[1]);
                is(x.where(n, 0), 100 * place[0] + place[1]);
                is(x.where(1, n), -9);
            }
        }
        promise(18, "-4 either;");
        for (int low : new int[] {-1, LOW}) {
            for (int other : ANY) {
                anywhere.refuses(-4, y -> y.where(low, other));
                anywhere.refuses(-4, y -> y.where(other, low));
            }
        }
        promise(18, "-6 (n);");
        for (int n : SIZES) {
            for (int high : new int[] {n + 1, HIGH}) {
                for (int other : new int[] {0, n, high}) {
                    ofSize(n).refuses(-6, y -> y.where(high, other));
                    ofSize(n).refuses(-6, y -> y.where(other, high));
                }
            }
        }
        promise(18, "-3 both are one.");
        for (int n : SIZES) {
            ofSize(n).refuses(-3, y -> y.where(0, 0));
            ofSize(n).refuses(-3, y -> y.where(n, n));
        }
    }

    // ---- searches

    private void starters() {
        promise(19, "STARTERS of SIZE: how many (i -1), the other NUMBER of PAIR k in the i-th "
            + "(-9 there are not so many).");
        int[][] firsts = {{2}, {4, 3}, {3, 6, 5}, {2, 6, 8, 7}, {2, 6, 8, 10, 9}};
        for (int j = 0; j < SEARCHED.length; j++) {
            int n = SEARCHED[j];
            int many = STARTERS[j];
            ofSize(n).asks(many, y -> y.starters(-1, 0));
            for (int i = 0; i < n / 2; i++) {
                int k = i;
                ofSize(n).asks(firsts[j][k], y -> y.starters(0, k));
                starter(n).asks(n - 1 - k, y -> y.starters(many - 1, k));
                ofSize(n).asks(-9, y -> y.starters(many, k));
                ofSize(n).asks(-9, y -> y.starters(HIGH, k));
            }
        }
        promise(19, "-4 below -1;");
        for (int i : new int[] {-2, LOW}) {
            for (int k : ANY) {
                anywhere.refuses(-4, y -> y.starters(i, k));
                ofSize(13).refuses(-4, y -> y.starters(i, k));
            }
        }
        promise(19, "-3 n above 11;");
        for (int i : new int[] {-1, 0, HIGH}) {
            for (int k : ANY) {
                ofSize(13).refuses(-3, y -> y.starters(i, k));
            }
        }
        promise(19, "-1 PAIR ((n less 1) / 2 or more, below 0; not with i -1).");
        for (int j = 0; j < SEARCHED.length; j++) {
            int n = SEARCHED[j];
            int many = STARTERS[j];
            for (int k : new int[] {-1, LOW, n / 2, HIGH}) {
                for (int i : new int[] {0, many, HIGH}) {
                    ofSize(n).refuses(-1, y -> y.starters(i, k));
                }
                ofSize(n).asks(many, y -> y.starters(-1, k));
            }
        }
    }

    private void strong() {
        promise(20, "How many STARTERS of SIZE are STRONG (what 0), SKEW (1).");
        for (int j = 0; j < SEARCHED.length; j++) {
            ofSize(SEARCHED[j]).asks(ADDERS_OF_BOOK[j], y -> y.strong(0));
            ofSize(SEARCHED[j]).asks(ADDERS_OF_BOOK[j], y -> y.strong(1));
        }
        promise(20, "-2;");
        for (int what : new int[] {-1, LOW, 2, HIGH}) {
            anywhere.refuses(-2, y -> y.strong(what));
            ofSize(13).refuses(-2, y -> y.strong(what));
        }
        promise(20, "-3 n above 11.");
        ofSize(13).refuses(-3, y -> y.strong(0));
        ofSize(13).refuses(-3, y -> y.strong(1));
    }

    private void adders() {
        promise(21, "ADDERS: how many (i -1), the ADDER of PAIR k in the i-th (-9 there are not so many).");
        for (int j = 0; j < SEARCHED.length; j++) {
            int n = SEARCHED[j];
            int many = ADDERS_OF_BOOK[j];
            starter(n).asks(many, y -> y.adders(-1, 0));
            for (int i = 0; i < n / 2; i++) {
                int k = i;
                starter(n).asks(-9, y -> y.adders(many, k));
                starter(n).asks(-9, y -> y.adders(HIGH, k));
            }
        }
        int[][] rows = {{2, 4, 1}, {5, 3, 6}};
        for (int k = 0; k < 3; k++) {
            int asked = k;
            starter(7).asks(rows[0][k], y -> y.adders(0, asked));
            starter(7).asks(rows[1][k], y -> y.adders(1, asked));
        }
        promise(21, "-4 below -1;");
        for (int i : new int[] {-2, LOW}) {
            for (int k : ANY) {
                anywhere.refuses(-4, y -> y.adders(i, k));
                starter(7).refuses(-4, y -> y.adders(i, k));
                starter(13).refuses(-4, y -> y.adders(i, k));
            }
        }
        promise(21, "-3 (n above 11, no STARTER);");
        for (int i : new int[] {-1, 0, HIGH}) {
            for (int k : ANY) {
                starter(13).refuses(-3, y -> y.adders(i, k));
                ofSize(13).refuses(-3, y -> y.adders(i, k));
                ofSize(11).refuses(-3, y -> y.adders(i, k));
                new Made(told, () -> lessOne(7)).refuses(-3, y -> y.adders(i, k));
                ofSize(7, 1, 2, 3, 4, 5, 6).refuses(-3, y -> y.adders(i, k));
            }
        }
        promise(21, "-1 PAIR (not with i -1).");
        for (int j = 0; j < SEARCHED.length; j++) {
            int n = SEARCHED[j];
            int many = ADDERS_OF_BOOK[j];
            for (int k : new int[] {-1, LOW, n / 2, HIGH}) {
                for (int i : new int[] {0, many, HIGH}) {
                    starter(n).refuses(-1, y -> y.adders(i, k));
                }
                starter(n).asks(many, y -> y.adders(-1, k));
            }
        }
    }

    private void odds() {
        promise(22, "ODDS: part 0 above, 1 below the line.");
        int[] below = {1, 1, 3, 1, 25};
        for (int j = 0; j < SEARCHED.length; j++) {
            ofSize(SEARCHED[j]).asks(ADDERS_OF_BOOK[j], y -> y.odds(0));
            ofSize(SEARCHED[j]).asks(below[j], y -> y.odds(1));
        }
        promise(22, "Refused as told of longs: -2;");
        for (int part : new int[] {-1, LOW, 2, HIGH}) {
            anywhere.refuses(LONGS + 2, y -> y.odds(part));
            ofSize(13).refuses(LONGS + 2, y -> y.odds(part));
        }
        promise(22, "-3 n above 11.");
        ofSize(13).refuses(LONGS + 3, y -> y.odds(0));
        ofSize(13).refuses(LONGS + 3, y -> y.odds(1));
    }

    private void lots() {
        promise(23, "LOTS: how often (what 0), differences (1).");
        starter(13).asks(1, y -> y.lots(1, 0, 0));
        starter(13).asks(8, y -> y.lots(1, 0, 1));
        starter(13).asks(50, y -> y.lots(50, 0, 0));
        starter(13).asks(8, y -> y.lots(50, 0, 1));
        busy.asks(50, y -> y.lots(50, HIGH, 0));
        busy.asks(2, y -> y.lots(50, LOW, 1));
        promise(23, "-4 below 1;");
        for (int m : new int[] {0, -1, LOW}) {
            for (int what : new int[] {0, 1, 2, -1}) {
                anywhere.refuses(-4, y -> y.lots(m, 1, what));
            }
        }
        promise(23, "-6 50;");
        for (int m : new int[] {51, HIGH}) {
            for (int what : new int[] {0, 1, 2, -1}) {
                anywhere.refuses(-6, y -> y.lots(m, 1, what));
            }
        }
        promise(23, "-2;");
        for (int what : new int[] {-1, LOW, 2, HIGH}) {
            anywhere.refuses(-2, y -> y.lots(1, 1, what));
            anywhere.refuses(-2, y -> y.lots(50, 1, what));
        }
        promise(23, "-3 no PAIRS.");
        fresh.refuses(-3, y -> y.lots(1, 1, 0));
        for (int n : SIZES) {
            ofSize(n).refuses(-3, y -> y.lots(50, LOW, 1));
            ofSize(n, 2, 1).asks(1, y -> y.lots(1, 1, 0));
        }
    }

    // ---- turns

    private void turn() {
        promise(24, "A TURN more: how many.");
        SquareRooms x = new SquareRooms();
        for (int kind = 0; kind <= 5; kind++) {
            is(x.turn(kind, 12 * (kind % 2)), kind + 1);
            is(x.count(2), kind + 1);
        }
        for (int kind = 0; kind <= 5; kind++) {
            int asked = kind;
            fresh.takes(1, y -> y.turn(asked, 0));
            busy.takes(3, y -> y.turn(asked, 12));
        }
        promise(24, "-2;");
        for (int kind : new int[] {-1, LOW, 6, HIGH}) {
            for (int u : ANY) {
                anywhere.refuses(-2, y -> y.turn(kind, u));
            }
        }
        promise(24, "-4;");
        for (int u : new int[] {-1, LOW}) {
            for (int kind = 0; kind <= 5; kind++) {
                int asked = kind;
                anywhere.refuses(-4, y -> y.turn(asked, u));
            }
        }
        promise(24, "-6 (12; six there are).");
        for (int kind = 0; kind <= 5; kind++) {
            int asked = kind;
            anywhere.refuses(-6, y -> y.turn(asked, 13));
            anywhere.refuses(-6, y -> y.turn(asked, HIGH));
            full.refuses(-6, y -> y.turn(asked, 0));
            full.refuses(-6, y -> y.turn(asked, 12));
        }
    }

    private void still() {
        promise(25, "There are no TURNS then: how many there were.");
        fresh.asks(0, SquareRooms::still);
        busy.takes(2, SquareRooms::still);
        full.takes(6, SquareRooms::still);
        SquareRooms x = Rooms.full();
        x.still();
        is(x.count(2), 0);
        is(x.still(), 0);
        is(x.turned(0, 0), 2);
        is(x.turn(5, 12), 1);
    }

    private void turned() {
        promise(26, "Of THE PAIRS TURNED, in thought: FIRST (what 0), SECOND (1), ADDER (2) of PAIR k "
            + "(also where it can't be truly).");
        // busy: TIMES 2, then LESS, of 4 1 with 3, modulo 5
        int[] due = {2, 3, 4};
        for (int what = 0; what <= 2; what++) {
            int asked = what;
            busy.asks(due[what], y -> y.turned(0, asked));
            new Made(told, () -> Rooms.bookTurned(0, 7)).asks(0, y -> y.turned(2, asked));
        }
        promise(26, "-1;");
        for (int k : new int[] {-1, LOW, 3, HIGH}) {
            for (int what : ANY) {
                anywhere.refuses(-1, y -> y.turned(k, what));
            }
        }
        fresh.refuses(-1, y -> y.turned(0, 0));
        for (int n : SIZES) {
            starter(n).refuses(-1, y -> y.turned(n / 2, 0));
            starter(n).asks(n / 2, y -> y.turned(n / 2 - 1, 0));
        }
        promise(26, "-2.");
        for (int what : new int[] {-1, LOW, 3, HIGH}) {
            busy.refuses(-2, y -> y.turned(0, what));
            full.refuses(-2, y -> y.turned(0, what));
        }
    }

    private void turns() {
        promise(27, "THE PAIRS are TURNED truly (TURNS stay): how many.");
        fresh.takes(0, SquareRooms::turns);
        busy.takes(1, SquareRooms::turns);
        for (int n : SIZES) {
            starter(n).takes(n / 2, SquareRooms::turns);
        }
        SquareRooms x = Rooms.busy();
        x.turns();
        is(x.of(0, 0), 2);
        is(x.of(0, 1), 3);
        is(x.of(0, 2), 4);
        is(x.count(2), 2);
        is(x.count(1), 1);
        promise(27, "-3 it can't be.");
        for (int n : SIZES) {
            new Made(told, () -> withTurn(n, 0, 0)).refuses(-3, SquareRooms::turns);
        }
        for (int u : new int[] {0, 7}) {
            new Made(told, () -> Rooms.bookTurned(0, u)).refuses(-3, SquareRooms::turns);
        }
    }

    private static SquareRooms withTurn(int n, int kind, int u) {
        SquareRooms x = Rooms.starter(n);
        x.turn(kind, u);
        return x;
    }

    // ---- lists of numbers

    private Made withLists(int length) {
        return new Made(told, () -> listed(length));
    }

    /** LIST 0 counts 1, 2, ..; LIST 2 is missing. */
    private static SquareRooms listed(int length) {
        SquareRooms x = Rooms.ofSize(5, 1, 4, 3, 2);
        x.list(0, length);
        for (int i = 0; i < length; i++) {
            x.put(0, i, i + 1);
        }
        x.list(1, 1);
        return x;
    }

    private void list() {
        promise(28, "A LIST becomes a row of n ints, all 0: 1.");
        for (int list = 0; list <= 2; list++) {
            SquareRooms x = Rooms.full();
            for (int n : new int[] {40, 0, 1, 40, 39}) {
                is(x.list(list, n), 1);
                for (int i = 0; i < n; i += Math.max(1, n - 1)) {
                    is(x.look(list, i), 0);
                    x.put(list, i, -1);
                }
                is(x.look(list, n), LONGS + 13);
            }
        }
        promise(28, "-1;");
        for (int list : new int[] {-1, LOW, 3, HIGH}) {
            for (int n : new int[] {0, 40, 41, -1, LOW, HIGH}) {
                anywhere.refuses(-1, y -> y.list(list, n));
            }
        }
        promise(28, "-6 40;");
        promiseOfEachList(-6, 41, HIGH);
        promise(28, "-14.");
        promiseOfEachList(-14, -1, LOW);
    }

    private void promiseOfEachList(int due, int... sizes) {
        for (int list = 0; list <= 2; list++) {
            int asked = list;
            for (int n : sizes) {
                anywhere.refuses(due, y -> y.list(asked, n));
            }
        }
    }

    private void put() {
        promise(29, "Place i of a LIST becomes v: 1.");
        for (int v : ANY) {
            SquareRooms x = listed(40);
            is(x.put(0, 0, v), 1);
            is(x.put(0, 39, v), 1);
            is(x.look(0, 0), v);
            is(x.look(0, 1), 2);
            is(x.look(0, 39), v);
        }
        promise(29, "-1;");
        for (int list : new int[] {-1, LOW, 3, HIGH}) {
            for (int i : ANY) {
                anywhere.refuses(-1, y -> y.put(list, i, 1));
            }
        }
        promise(29, "-11;");
        for (int i : ANY) {
            withLists(4).refuses(-11, y -> y.put(2, i, 1));
            fresh.refuses(-11, y -> y.put(0, i, 1));
        }
        promise(29, "-13.");
        for (int length : new int[] {0, 1, 39, 40}) {
            for (int i : new int[] {-1, LOW, length, 40, HIGH}) {
                withLists(length).refuses(-13, y -> y.put(0, i, 1));
            }
        }
    }

    private void look() {
        promise(30, "Place i of a LIST.");
        withLists(40).asks(1, y -> y.look(0, 0));
        withLists(40).asks(40, y -> y.look(0, 39));
        withLists(1).asks(1, y -> y.look(0, 0));
        withLists(1).asks(0, y -> y.look(1, 0));
        busy.asks(-7, y -> y.look(0, 3));
        promise(30, "Refused as told of longs: -1;");
        for (int list : new int[] {-1, LOW, 3, HIGH}) {
            for (int i : ANY) {
                anywhere.refuses(LONGS + 1, y -> y.look(list, i));
            }
        }
        promise(30, "-11;");
        for (int i : ANY) {
            withLists(4).refuses(LONGS + 11, y -> y.look(2, i));
            fresh.refuses(LONGS + 11, y -> y.look(0, i));
        }
        promise(30, "-13.");
        for (int length : new int[] {0, 1, 39, 40}) {
            for (int i : new int[] {-1, LOW, length, 40, HIGH}) {
                withLists(length).refuses(LONGS + 13, y -> y.look(0, i));
            }
        }
    }

    private void lays() {
        promise(31, "FIRST and SECOND of PAIRS are laid into a LIST, one behind another, from place i on: "
            + "how many numbers.");
        int[] numbers = {1, 4, 3, 2};
        for (int length : new int[] {4, 5, 39, 40}) {
            for (int i : new int[] {0, length - 4}) {
                SquareRooms x = listed(length);
                is(x.lays(0, i), 4);
                for (int j = 0; j < length; j++) {
                    is(x.look(0, j), j >= i && j < i + 4 ? numbers[j - i] : j + 1);
                }
            }
        }
        for (int i : ANY) {
            fresh.takes(0, y -> y.list(0, 3) < 0 ? -1 : y.lays(0, i));
            fresh.takes(0, y -> y.list(0, 0) < 0 ? -1 : y.lays(0, i));
        }
        promise(31, "-1;");
        for (int list : new int[] {-1, LOW, 3, HIGH}) {
            for (int i : ANY) {
                anywhere.refuses(-1, y -> y.lays(list, i));
            }
        }
        promise(31, "-11;");
        for (int i : ANY) {
            withLists(4).refuses(-11, y -> y.lays(2, i));
            fresh.refuses(-11, y -> y.lays(0, i));
        }
        promise(31, "-13 not all have a place (none is laid).");
        for (int length : new int[] {0, 1, 3, 4, 39, 40}) {
            for (int i : new int[] {-1, -4, LOW, Math.max(0, length - 3), length, 40, HIGH, HIGH - 3}) {
                withLists(length).refuses(-13, y -> y.lays(0, i));
            }
        }
        full.refuses(-13, y -> y.lays(1, 39));
        full.takes(2, y -> y.lays(1, 38));
    }

    private void judge() {
        promise(32, "JUDGED; -9.");
        withLists(0).asks(-9, y -> y.judge(0));
        withLists(1).asks(-9, y -> y.judge(0));
        withLists(2).asks(1, y -> y.judge(0));
        withLists(2).asks(0, y -> y.judge(1));
        promise(32, "-1;");
        for (int list : new int[] {-1, LOW, 3, HIGH}) {
            anywhere.refuses(-1, y -> y.judge(list));
        }
        promise(32, "-11.");
        withLists(4).refuses(-11, y -> y.judge(2));
        for (int list = 0; list <= 2; list++) {
            int asked = list;
            fresh.refuses(-11, y -> y.judge(asked));
        }
    }

    private void sizes() {
        promise(33, "WHICH SIZES (bits).");
        withLists(0).asks(0, y -> y.sizes(0));
        withLists(2).asks(1, y -> y.sizes(0));
        withLists(4).asks(0, y -> y.sizes(0));
        withLists(40).asks(0, y -> y.sizes(0));
        promise(33, "-1;");
        for (int list : new int[] {-1, LOW, 3, HIGH}) {
            anywhere.refuses(-1, y -> y.sizes(list));
        }
        promise(33, "-11;");
        withLists(4).refuses(-11, y -> y.sizes(2));
        for (int list = 0; list <= 2; list++) {
            int asked = list;
            fresh.refuses(-11, y -> y.sizes(asked));
        }
        promise(33, "-3 an odd size.");
        for (int length : new int[] {1, 3, 13, 39}) {
            withLists(length).refuses(-3, y -> y.sizes(0));
        }
        withLists(2).refuses(-3, y -> y.sizes(1));
    }

    // ---- the image

    private void undo() {
        promise(34, "The latest is UNDONE: how many still can be.");
        busy.takes(2, SquareRooms::undo);
        full.takes(11, SquareRooms::undo);
        SquareRooms x = Rooms.full();
        for (int left = 11; left >= 0; left--) {
            is(x.undo(), left);
            is(x.count(5), left);
        }
        is(x.undo(), -3);
        promise(34, "-3 there is none.");
        fresh.refuses(-3, SquareRooms::undo);
        starter(7).refuses(-3, SquareRooms::undo);
        new Made(told, PromiseSentences::undone).refuses(-3, SquareRooms::undo);
    }

    /** All that could be is UNDONE. */
    private static SquareRooms undone() {
        SquareRooms x = Rooms.busy();
        for (int i = 0; i < 3; i++) {
            x.undo();
        }
        return x;
    }

    private void image() {
        promise(35, "THE IMAGE is taken: how many PAIRS.");
        fresh.takes(0, SquareRooms::image);
        busy.takes(1, SquareRooms::image);
        for (int n : SIZES) {
            starter(n).takes(n / 2, SquareRooms::image);
        }
        SquareRooms x = Rooms.busy();
        is(x.image(), 1);
        told.holds("all but the IMAGE stays", aheadOfOn(x).equals(aheadOfOn(Rooms.busy())));
    }

    private static String aheadOfOn(SquareRooms x) {
        String told = Readout.of(x);
        return told.substring(0, told.indexOf("on "));
    }

    private void on() {
        promise(36, "ON from it: how many PAIRS.");
        busy.takes(1, SquareRooms::on);
        SquareRooms x = new SquareRooms();
        x.image();
        x.book();
        is(x.on(), 0);
        x.book();
        x.image();
        x.drop();
        is(x.on(), 3);
        is(x.on(), 3);
        promise(36, "-3 there is no IMAGE.");
        fresh.refuses(-3, SquareRooms::on);
        for (int n : SIZES) {
            starter(n).refuses(-3, SquareRooms::on);
        }
    }

    private void count() {
        promise(37, "0 SIZE, 1 PAIRS, 2 TURNS, 3 CELLS that are filled, 4 letters, 5 what can be UNDONE, "
            + "11 .. 16 REFUSALS -1 .. -6.");
        long[] ofBusy = {5, 1, 2, 2, 0, 3};
        long[] ofFull = {3, 1, 6, 9, 72, 12};
        for (int what = 0; what <= 5; what++) {
            int asked = what;
            busy.asks(ofBusy[what], y -> y.count(asked));
            full.asks(ofFull[what], y -> y.count(asked));
        }
        SquareRooms x = new SquareRooms();
        for (int i = 1; i <= 6; i++) {
            is(x.of(0, 0), -1);
            is(i > 2 ? -2 : x.is(5), -2);
            is(i > 3 ? -3 : x.drop(), -3);
            is(i > 4 ? -4 : x.size(2), -4);
            is(x.size(14), -6);
        }
        long[] refusals = {6, 2, 3, 4, 0, 6};
        for (int i = 0; i < 6; i++) {
            is(x.count(11 + i), refusals[i]);
        }
        promise(37, "-9 for another what.");
        for (int what : new int[] {-1, LOW, 6, 7, 8, 9, 10, 17, 18, HIGH}) {
            anywhere.asks(-9, y -> y.count(what));
        }
    }
}
