import java.util.ArrayDeque;
import java.util.Arrays;
import java.util.function.Consumer;

/** The terms' third part: TEXT, LISTS, ODDS, LOTS, what can be UNDONE, THE IMAGE. */
final class KeptSentences {
    private static final int LOW = Integer.MIN_VALUE;
    private static final int HIGH = Integer.MAX_VALUE;
    private static final int[] SIZES = {3, 5, 7, 9, 11, 13};

    private final Sentences told;
    private final Made noLetters;

    KeptSentences(Sentences told) {
        this.told = told;
        noLetters = new Made(told, SquareRooms::new, Rooms::busy);
    }

    void all() {
        texts();
        statements();
        faultsOfKind1();
        faultsOfKind2();
        lists();
        judged();
        whichSizes();
        odds();
        lots();
        draws();
        undone();
        leftNone();
        image();
    }

    private void term(String sentence) {
        told.term(sentence);
    }

    private void is(long got, long want) {
        told.is(got, want);
    }

    private Made ofSize(int n, int... numbers) {
        return new Made(told, () -> Rooms.ofSize(n, numbers));
    }

    // ---- texts

    private static String two(int v) {
        return "" + v / 10 + v % 10;
    }

    private void faults(int fault, String... texts) {
        for (String text : texts) {
            noLetters.asks(fault, x -> Rooms.told(x, text));
        }
    }

    private void texts() {
        term("A TEXT is told in letters (72 at most):");
        SquareRooms x = new SquareRooms();
        Rooms.letters(x, "t312;".repeat(5) + "p0106;p0205;p0304;" + "a006;".repeat(5) + "n13;");
        is(x.count(4), 72);
        is(x.letter(';'), -6);
        is(x.text(), 14);
        is(x.count(0), 13);
        is(x.text(), -1000);
        term("STATEMENTS, each with \";\" behind, one or more:");
        faults(-1000, "", ";");
        faults(-1003, "n07");
        faults(-1004, "n07;;");
        faults(-1007, "n07;n07");
        is(Rooms.told(x, "n07;"), 1);
        is(Rooms.told(x, "n05;".repeat(18)), 18);
    }

    private void statements() {
        term("\"n\" 2 digits: SIZE, no PAIRS, no TURNS, THE ROOM empty;");
        for (int n : SIZES) {
            SquareRooms x = Rooms.busy();
            is(Rooms.told(x, "n" + two(n) + ";"), 1);
            int[] due = {n, 0, 0, 0};
            for (int what = 0; what < due.length; what++) {
                is(x.count(what), due[what]);
            }
        }
        term("\"p\" x, y (2 digits each): a PAIR more;");
        for (int n : SIZES) {
            SquareRooms x = Rooms.ofSize(n);
            is(Rooms.told(x, "p" + two(n - 1) + "01;"), 1);
            is(x.of(0, 0), n - 1);
            is(x.of(0, 1), 1);
            is(x.of(0, 2), 0);
            ofSize(n).asks(-2000, y -> Rooms.told(y, "p" + two(n) + "01;"));
            ofSize(n).asks(-2000, y -> Rooms.told(y, "p01" + two(n) + ";"));
            ofSize(n).asks(-2000, y -> Rooms.told(y, "p00" + two(n - 1) + ";"));
            ofSize(n).asks(-2000, y -> Rooms.told(y, "p" + two(n - 1) + "00;"));
        }
        term("\"a\" k (a digit), ADDER (2 digits);");
        for (int n : SIZES) {
            Made starter = new Made(told, () -> Rooms.starter(n));
            int last = n / 2 - 1;
            SquareRooms x = Rooms.starter(n);
            is(Rooms.told(x, "a" + last + two(n - 1) + ";"), 1);
            is(x.of(last, 2), n - 1);
            is(Rooms.told(x, "a" + last + "00;"), 1);
            is(x.of(last, 2), 0);
            starter.asks(-2000, y -> Rooms.told(y, "a" + last + two(n) + ";"));
            starter.asks(-2000, y -> Rooms.told(y, "a" + (last + 1) + "00;"));
            starter.asks(-2000, y -> Rooms.told(y, "a900;"));
        }
        term("\"t\" KIND (a digit), u (2 digits): a TURN more.");
        for (int kind = 0; kind <= 5; kind++) {
            SquareRooms x = Rooms.bookTurned();
            is(Rooms.told(x, "t" + kind + "00;t" + kind + "12;"), 2);
            is(x.count(2), 2);
            faults(-2000, "t" + kind + "13;", "t" + kind + "99;");
            SquareRooms same = Rooms.bookTurned(kind, 0, kind, 12);
            for (int place = 0; place < 9; place++) {
                is(x.turned(place / 3, place % 3), same.turned(place / 3, place % 3));
            }
        }
        faults(-2000, "t600;", "t900;");
    }

    private void faultsOfKind1() {
        term("FAULT: kind 1 the place (from 0) of the first letter with which no TEXT goes on (the number of letters, "
            + "if something lacks): -1000 less it;");
        faults(-1000, "", "x", "N07;", "\u0000", "\u00ff", "0", ";", "x07;n08;");
        faults(-1001, "n", "p", "a", "t", "nx7;", "n;", "p;", "t;", "an", "p/101;", "a:");
        faults(-1002, "n0", "n0;", "n0/;", "n0:;", "a0", "a0x", "t5;", "p0;");
        faults(-1003, "n07", "n07x", "n070", "p01", "p01;", "a00;", "t00:");
        faults(-1004, "p010", "n07;x", "n07;;", "p010;", "a000", "a0000", "t000x", "n07;\u00ff");
        faults(-1005, "p0102", "p01020", "n07;n", "n07;p/");
        faults(-1071, "n07;".repeat(17) + "n07x");
        SquareRooms x = new SquareRooms();
        is(Rooms.told(x, "t000;".repeat(14) + "t0"), -1072);
        is(x.count(2), 0);
        // kind 1 behind what would be of kind 2
        faults(-1004, "n08;x", "n99;;");
        faults(-1010, "p0000;t999");
    }

    private void faultsOfKind2() {
        term("else kind 2 the place of the first letter of the first STATEMENT that, behind all ahead of it in the "
            + "text, can't be (no such SIZE, a number out of range, two NUMBERS alike, no such PAIR, a PAIR or TURN "
            + "too many): -2000 less it.");
        faults(-2000, "n00;", "n01;", "n02;", "n04;", "n12;", "n14;", "n15;", "n99;", "n08;n09;");
        faults(-2000, "p0000;", "p0001;", "p0100;", "p0199;", "p9901;", "p0303;", "p0404;n07;");
        faults(-2000, "a100;", "a600;", "a999;", "t013;", "t600;", "t700;");
        faults(-2004, "n03;p0103;", "n03;p0301;", "n13;p1212;", "n05;a000;", "n11;n10;n09;", "n03;p0202;");
        faults(-2010, "n13;p1201;a013;", "n03;p0201;p0102;", "n03;p0102;a100;", "n05;p0104;a005;", "n03;p0102;a003;");
        faults(-2016, "n05;p0102;p0102;p0102;", "n13;p0112;p1201;p1213;");
        faults(-2034, "n09;" + "t501;".repeat(7));
        faults(-2068, "n09;".repeat(17) + "n06;");
        is(Rooms.told(Rooms.ofSize(5, 1, 2), "p0102;p0102;"), -2006);
        is(Rooms.told(Rooms.bookTurned(0, 1, 0, 1, 0, 1, 0, 1, 0, 1), "t001;t001;"), -2005);
        is(Rooms.told(Rooms.bookTurned(0, 1, 0, 1, 0, 1, 0, 1, 0, 1), "t001;"), 1);
        term("Without FAULT all of it comes, with one nothing.");
        SquareRooms x = Rooms.busy();
        is(Rooms.told(x, "p0302;a104;t212;"), 3);
        int[] due = {5, 2, 3, 2, 0, 0};
        for (int what = 0; what < due.length; what++) {
            is(x.count(what), due[what]);
        }
        is(x.of(1, 2), 4);
        // six TURNS, SIZE, six TURNS: none too many
        is(Rooms.told(x, "t001;t001;t001;n05;" + "t001;".repeat(6)), 10);
        is(x.count(2), 6);
        faults(-2015, "p0302;t212;n13;n14;");
        faults(-2011, "p0302;a004;a905;");
        faults(-1009, "n13;t001;x");
    }

    // ---- lists

    private void lists() {
        term("LISTS 0 .. 2 are rows of ints (40 at most), missing at first.");
        for (int list = 0; list <= 2; list++) {
            SquareRooms x = new SquareRooms();
            is(x.look(list, 0), 4000000000000000011L);
            is(x.put(list, 0, 0), -11);
            is(x.lays(list, 0), -11);
            is(x.judge(list), -11);
            is(x.sizes(list), -11);
            is(x.list(list, 41), -6);
            is(x.judge(list), -11);
            is(x.list(list, 40), 1);
            is(x.put(list, 0, LOW), 1);
            is(x.put(list, 39, HIGH), 1);
            is(x.put(list, 40, 1), -13);
            is(x.look(list, 0), LOW);
            is(x.look(list, 39), HIGH);
            for (int other = 0; other <= 2; other++) {
                is(other == list ? -11 : x.judge(other), -11);
            }
        }
        SquareRooms x = new SquareRooms();
        is(x.list(3, 1), -1);
        is(x.list(-1, 1), -1);
        is(x.list(0, 1) + x.list(1, 1) + x.list(2, 1), 3);
        x.put(1, 0, 5);
        is(x.look(0, 0) + x.look(2, 0), 0);
    }

    private void judgedIs(SquareRooms x, int due, int... numbers) {
        Rooms.fill(x, 0, numbers);
        is(x.judge(0), due);
    }

    private void judged() {
        term("JUDGED: a LIST tells FIRST and SECOND of PAIRS 0, 1, .., one behind another: the first place that is "
            + "otherwise (a PAIR that isn't there, too); -9 (also if it tells fewer).");
        SquareRooms x = Rooms.ofSize(7, 1, 2, 6, 4);
        int[] numbers = {1, 2, 6, 4};
        for (int length = 0; length <= 4; length++) {
            judgedIs(x, -9, Arrays.copyOf(numbers, length));
        }
        for (int place = 0; place < 4; place++) {
            int[] other = numbers.clone();
            other[place] += 7;
            judgedIs(x, place, other);
            Arrays.fill(other, place, 4, 0);
            judgedIs(x, place, other);
        }
        judgedIs(x, 4, 1, 2, 6, 4, 0);
        judgedIs(x, 4, 1, 2, 6, 4, 3, 5);
        judgedIs(x, 4, Arrays.copyOf(numbers, 40));
        judgedIs(x, 0, 2, 1, 6, 4);
        judgedIs(x, 1, 1, 1, 6, 4, 0);
        x.drop();
        judgedIs(x, 2, 1, 2, 6, 4);
        x.drop();
        judgedIs(x, 0, 1, 2);
        judgedIs(x, 0, 0);
        judgedIs(x, -9);
        int[] large = {1, 12, 2, 11, 3, 10, 4, 9, 5, 8, 6, 7};
        judgedIs(Rooms.starter(13), -9, large);
        judgedIs(Rooms.starter(13), 12, Arrays.copyOf(large, 13));
    }

    private void sizesIs(int due, int... numbers) {
        is(Rooms.filled(new SquareRooms(), 2, numbers).sizes(2), due);
    }

    private void whichSizes() {
        term("WHICH SIZES: of the NUMBERS that a LIST tells, two by two, as PAIRS: SIZES (bits: bit 0 for 3, bit 1 for "
            + "5, .. bit 5 for 13) by which they are a STARTER.");
        for (int n = 3; n <= 19; n += 2) {
            int[] numbers = new int[n - 1];
            int[] otherWay = new int[n - 1];
            for (int d = 1; d <= n / 2; d++) {
                numbers[2 * d - 2] = d;
                numbers[2 * d - 1] = n - d;
                otherWay[n - 1 - 2 * d] = n - d;
                otherWay[n - 2 * d] = d;
            }
            int due = n > 13 ? 0 : 1 << (n - 3) / 2;
            sizesIs(due, numbers);
            sizesIs(due, otherWay);
            numbers[n - 2] += n;
            sizesIs(0, numbers);
            numbers[n - 2] -= 2 * n;
            sizesIs(0, numbers);
            numbers[n - 2] = 0;
            sizesIs(0, numbers);
            numbers[n - 2] = n;
            sizesIs(0, numbers);
            numbers[n - 2] = numbers[n - 3];
            sizesIs(0, numbers);
        }
        sizesIs(0);
        sizesIs(0, new int[40]);
        sizesIs(0, 1, 2, 3, 4);
        sizesIs(0, 1, 2, 3, 4, 5, 6);
        sizesIs(0, 1, 2, 1, 3, 1, 4);
        sizesIs(0, 1, 2, 2, 1);
        // beyond all NUMBERS, but alike in their last five bits
        int[][] none = {{33, 34}, {33, 2}, {1, 34}, {-31, 2}, {1, -30}, {LOW + 1, 2}, {1, LOW + 2}, {4, 5}, {-2, -1},
            {1, 98}, {97, 2}, {1, -94}, {-95, 2}, {2, 97}, {98, 1}};
        for (int[] numbers : none) {
            sizesIs(0, numbers);
        }
        sizesIs(0, LOW, HIGH);
        sizesIs(0, 1, 1);
    }

    // ---- odds and lots

    private void odds() {
        term("ODDS: how likely a STARTER found by SEARCH, any alike, is STRONG: a fraction (0 by 1, if there is none).");
        int[][] due = {{0, 1}, {0, 1}, {2, 3}, {0, 1}, {4, 25}};
        for (int i = 0; i < due.length; i++) {
            SquareRooms x = Rooms.ofSize(3 + 2 * i);
            is(x.odds(0), due[i][0]);
            is(x.odds(1), due[i][1]);
            is(x.odds(0) * x.starters(-1, 0), x.odds(1) * x.strong(0));
        }
        is(Rooms.ofSize(13).odds(1), 4000000000000000003L);
    }

    private void lotsAre(SquareRooms x, int m, int z, int changes, int differences) {
        is(x.lots(m, z, 0), changes);
        is(x.lots(m, z, 1), differences);
    }

    private void lots() {
        term("LOTS with a seed z, in thought: m times (1 .. 50) two PAIRS (each by a DRAW below how many there are) "
            + "change SECONDS, if that leaves no PAIR with two NUMBERS alike (one and the same PAIR: nothing is "
            + "otherwise, they did): how often they did; how many unlike differences (of FIRST less SECOND and SECOND "
            + "less FIRST) there are then.");
        // a seed by which z becomes 256 first, and one by which it becomes 0
        SquareRooms book = Rooms.starter(7);
        lotsAre(book, 1, 103732453, 1, 6);
        lotsAre(book, 2, 103732453, 2, 6);
        lotsAre(book, 3, 103732453, 3, 2);
        lotsAre(book, 50, 103732453, 50, 2);
        SquareRooms alike = Rooms.ofSize(7, 1, 2, 2, 1, 3, 1);
        lotsAre(alike, 1, 634785765, 0, 4);
        lotsAre(alike, 2, 634785765, 1, 4);
        lotsAre(alike, 50, 634785765, 25, 4);
        lotsAre(alike, 50, 122584096, 20, 4);
        SquareRooms large = Rooms.ofSize(13, 1, 2, 2, 1, 3, 1, 4, 1, 5, 1, 6, 1);
        lotsAre(large, 3, 634785765, 1, 10);
        lotsAre(large, 50, 634785765, 36, 10);
        lotsAre(large, 50, 103732453, 38, 10);
        is(book.lots(0, 1, 0), -4);
        is(book.lots(51, 1, 0), -6);
        // one PAIR can only change with itself
        for (int n : SIZES) {
            lotsAre(Rooms.ofSize(n, n - 1, 1), 50, LOW, 50, 2);
        }
        new Made(told, () -> Rooms.starter(7)).asks(50, x -> x.lots(50, 1, 0));
    }

    private void draws() {
        term("A DRAW below m: z becomes z times 1664525, plus 1013904223 (an int); (z without its sign's bit divided by "
            + "256, cut) modulo m.");
        // z then: the sign's bit alone; all bits; all but the sign's; 255; 256; these with the sign's bit; 0
        int[] seeds = {-1512697883, 653637408, -1493846240, 122584096, 103732453, -2024899552, -2043751195, 634785765};
        int[][] due = {{2, 2, 4, 6}, {6, 6, 4, 4}, {6, 6, 4, 4}, {6, 4, 6, 4}, {6, 6, 2, 2}, {6, 4, 6, 4}, {6, 6, 2, 2},
            {2, 2, 4, 6}};
        int[][] dueOf13 = {{8, 8, 6, 8}, {12, 12, 8, 8}, {12, 12, 8, 8}, {12, 8, 8, 6}, {8, 8, 8, 6}, {12, 8, 8, 6},
            {8, 8, 8, 6}, {8, 8, 6, 8}};
        int[] times = {1, 2, 3, 50};
        for (int i = 0; i < seeds.length; i++) {
            for (int j = 0; j < times.length; j++) {
                lotsAre(Rooms.starter(7), times[j], seeds[i], times[j], due[i][j]);
                lotsAre(Rooms.starter(13), times[j], seeds[i], times[j], dueOf13[i][j]);
            }
        }
        int[] edges = {0, 1, -1, HIGH, LOW};
        int[][] dueOfEdges = {{6, 4, 4}, {6, 6, 6}, {6, 8, 6}, {6, 8, 6}, {6, 4, 4}};
        for (int i = 0; i < edges.length; i++) {
            lotsAre(Rooms.starter(11), 1, edges[i], 1, dueOfEdges[i][0]);
            lotsAre(Rooms.starter(11), 2, edges[i], 2, dueOfEdges[i][1]);
            lotsAre(Rooms.starter(11), 50, edges[i], 50, dueOfEdges[i][2]);
        }
    }

    // ---- what is undone, and the image

    private void adderIsBack(SquareRooms x, int left, int adder) {
        is(x.undo(), left);
        is(x.of(0, 2), adder);
    }

    private void undone() {
        term("What adder(), cell(), turns() made can be UNDONE (each that isn't refused counts, also if all stays as "
            + "it was), the latest first, 12 at most (older ones no more: PAIRS, ADDERS, THE ROOM are as ahead of it);");
        SquareRooms x = Rooms.bookTurned(1, 0, 3, 1);
        x.adder(0, 2);
        x.cell(0, 0, -1, 0);
        x.cell(6, 6, 7, 6);
        x.cell(6, 6, 6, 7);
        x.turns();
        x.still();
        x.turns();
        x.adder(0, 6);
        is(x.count(5), 7);
        adderIsBack(x, 6, 3);
        adderIsBack(x, 5, 3);
        adderIsBack(x, 4, 2);
        is(x.of(0, 0), 1);
        is(x.of(0, 1), 6);
        is(x.of(2, 0), 3);
        is(x.of(2, 1), 4);
        is(x.count(2), 0);
        is(x.undo(), 3);
        is(x.at(6, 6, 1), 7);
        is(x.undo(), 2);
        is(x.at(6, 6, 1), -9);
        is(x.undo(), 1);
        is(x.undo(), 0);
        is(x.undo(), -3);
        cornersAreBack();
        refusedOnesCountNot();
        for (int many : new int[] {1, 11, 12, 13, 23, 24, 25, 40}) {
            SquareRooms y = Rooms.ofSize(13, 1, 2);
            for (int v = 1; v <= many; v++) {
                y.adder(0, v % 13);
                is(y.count(5), Math.min(v, 12));
            }
            for (int left = Math.min(many, 12) - 1; left >= 0; left--) {
                adderIsBack(y, left, (many - Math.min(many, 12) + left) % 13);
            }
            is(y.undo(), -3);
        }
        backAndForth();
    }

    private void cornersAreBack() {
        for (int n : SIZES) {
            for (int place : new int[] {0, n * n - 1}) {
                SquareRooms x = Rooms.ofSize(n);
                x.cell(place / n, place % n, n, 0);
                x.cell(place / n, place % n, 1, 0);
                x.cell(place / n, place % n, -1, 0);
                int[] due = {1, n, -9};
                for (int i = 0; i < 3; i++) {
                    is(x.undo(), 2 - i);
                    is(x.at(place / n, place % n, 1), due[i]);
                }
            }
        }
    }

    private void refusedOnesCountNot() {
        SquareRooms x = Rooms.bookTurned(0, 7);
        is(x.adder(0, 7), -6);
        is(x.adder(3, 0), -1);
        is(x.adder(0, -1), -4);
        is(x.cell(7, 0, -1, 0), -1);
        is(x.cell(0, 0, 8, 0), -6);
        is(x.cell(0, 0, 0, 0), -3);
        is(x.turns(), -3);
        is(x.count(5), 0);
        is(x.undo(), -3);
    }

    /** Eight more and five back, over and over. */
    private void backAndForth() {
        SquareRooms x = Rooms.ofSize(13, 1, 2);
        ArrayDeque<Integer> were = new ArrayDeque<>();
        for (int i = 0; i < 130; i++) {
            if (i % 13 < 8) {
                were.push(x.adder(0, i * 5 % 13));
                if (were.size() > 12) {
                    were.removeLast();
                }
            } else {
                adderIsBack(x, were.size() - 1, were.pop());
            }
            is(x.count(5), were.size());
        }
    }

    private void undoAfter(int due, Consumer<SquareRooms> call) {
        SquareRooms x = Rooms.busy();
        call.accept(x);
        is(x.undo(), due);
    }

    private void leftNone() {
        term("pair(), drop(), size(), book(), build(), ON, a TEXT without FAULT leave none, where they are not refused.");
        undoAfter(2, x -> x.count(5));
        undoAfter(-3, x -> x.pair(1, 2));
        undoAfter(-3, SquareRooms::drop);
        undoAfter(-3, x -> x.size(5));
        undoAfter(-3, SquareRooms::book);
        undoAfter(-3, SquareRooms::on);
        undoAfter(-3, x -> Rooms.told(x, "t000;"));
        undoAfter(2, x -> x.pair(0, 1));
        undoAfter(2, x -> x.pair(5, 1));
        undoAfter(2, x -> x.pair(2, 2));
        undoAfter(2, x -> x.size(6));
        undoAfter(2, SquareRooms::build);
        undoAfter(2, x -> Rooms.told(x, "n06;"));
        undoAfter(2, x -> Rooms.told(x, "t000"));
        undoAfter(2, SquareRooms::image);
        undoAfter(2, SquareRooms::still);
        undoAfter(2, x -> x.turn(0, 1));
        undoAfter(2, x -> x.lays(0, 0));
        SquareRooms built = Rooms.bookTurned();
        built.adder(0, 0);
        is(built.build(), 7);
        is(built.undo(), -3);
        SquareRooms refused = Rooms.ofSize(13);
        refused.cell(0, 0, 0, 1);
        is(refused.drop(), -3);
        is(refused.book(), -6);
        is(refused.on(), -3);
        is(refused.build(), -3);
        is(refused.undo(), 0);
        // one made behind is the first there is
        built.adder(0, 1);
        is(built.undo(), 0);
        is(built.of(0, 2), 0);
    }

    private void image() {
        term("THE IMAGE: SIZE, PAIRS, ADDERS, TURNS, THE ROOM; ON from it these are as then (letters, LISTS stay).");
        SquareRooms x = Rooms.full();
        is(x.image(), 1);
        x.still();
        x.drop();
        x.size(13);
        x.cell(12, 12, 13, 12);
        x.pair(12, 1);
        x.adder(0, 12);
        x.put(1, 0, 9);
        is(x.on(), 1);
        int[] due = {3, 1, 6, 9, 72, 0};
        for (int what = 0; what < due.length; what++) {
            is(x.count(what), due[what]);
        }
        is(x.of(0, 0), 2);
        is(x.of(0, 1), 1);
        is(x.of(0, 2), 1);
        is(x.at(2, 2, 0), 2);
        is(x.at(2, 2, 1), 3);
        is(x.look(1, 0), 9);
        is(x.look(1, 39), 5);
        is(x.turned(0, 0), Rooms.full().turned(0, 0));
        x.adder(0, 0);
        x.cell(2, 2, -1, 0);
        x.still();
        x.turn(0, 2);
        is(x.on(), 1);
        is(x.of(0, 2), 1);
        is(x.at(2, 2, 0), 2);
        is(x.count(2), 6);
        x.still();
        for (int u = 0; u < 6; u++) {
            x.turn(0, u % 2 + 1);
        }
        is(x.on(), 1);
        for (int what = 0; what <= 2; what++) {
            is(x.turned(0, what), Rooms.full().turned(0, what));
        }
        is(x.text(), 18);
        largest();
        // one of nothing
        SquareRooms none = new SquareRooms();
        is(none.image(), 0);
        none.size(13);
        none.turn(0, 1);
        none.cell(12, 12, 0, 1);
        is(none.on(), 0);
        is(none.count(0), 7);
        is(none.count(2) + none.count(3), 0);
        is(none.at(12, 12, 0), -1);
    }

    private void largest() {
        SquareRooms x = Rooms.starter(13);
        x.adder(5, 12);
        x.cell(12, 12, 13, 12);
        x.cell(0, 0, 0, 1);
        for (int u = 7; u <= 12; u++) {
            x.turn(0, u);
        }
        is(x.image(), 6);
        x.drop();
        x.pair(1, 2);
        x.cell(12, 12, -1, 0);
        x.cell(12, 11, 3, 4);
        x.still();
        x.turn(0, 6);
        is(x.on(), 6);
        is(x.of(5, 0), 6);
        is(x.of(5, 1), 7);
        is(x.of(5, 2), 12);
        is(x.at(12, 12, 1), 13);
        is(x.at(12, 11, 1), -9);
        is(x.at(0, 0, 1), 1);
        // 7 times 8 times .. 12 is 665280
        is(x.turned(0, 0), 665280 % 13);
    }
}
