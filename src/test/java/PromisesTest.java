/** A method for each promise: ordinary calls, the edges that the document names, wrong inputs. */
public final class PromisesTest {
    private static final int LOW = Integer.MIN_VALUE;
    private static final int HIGH = Integer.MAX_VALUE;
    private static final Due DUE = new Due("PromisesTest");

    public static void main(String[] args) {
        promises1To6();
        promises7To12();
        promises13To18();
        promises19To23();
        promises24To27();
        promises28To33();
        promises34To37();
        DUE.end();
    }

    private static void promises1To6() {
        newObject();
        letter();
        text();
        textFaultsOfKind1();
        textFaultsOfKind2();
        size();
        pair();
        drop();
    }

    private static void promises7To12() {
        adder();
        of();
        is();
        book();
        right();
        build();
    }

    private static void promises13To18() {
        cell();
        at();
        faults();
        indeed();
        faced();
        where();
    }

    private static void promises19To23() {
        starters();
        strong();
        adders();
        odds();
        lots();
    }

    private static void promises24To27() {
        turn();
        still();
        turned();
        turns();
    }

    private static void promises28To33() {
        list();
        put();
        look();
        lays();
        judge();
        sizes();
    }

    private static void promises34To37() {
        undo();
        undoKeepsTwelve();
        undoIsLeftNone();
        image();
        on();
        count();
    }

    // ---- helpers

    private static void is(String call, long got, long want) {
        DUE.is(call, got, want);
    }

    private static void pairIs(String when, SquareRooms x, int k, int first, int second, int adder) {
        is(when + ": of(" + k + ", 0)", x.of(k, 0), first);
        is(when + ": of(" + k + ", 1)", x.of(k, 1), second);
        is(when + ": of(" + k + ", 2)", x.of(k, 2), adder);
    }

    private static void turnedIs(String when, SquareRooms x, int k, int first, int second, int adder) {
        is(when + ": turned(" + k + ", 0)", x.turned(k, 0), first);
        is(when + ": turned(" + k + ", 1)", x.turned(k, 1), second);
        is(when + ": turned(" + k + ", 2)", x.turned(k, 2), adder);
    }

    private static void refusals(String when, SquareRooms x, int nobody, int other, int state, int below, int room) {
        is(when + ": count(11)", x.count(11), nobody);
        is(when + ": count(12)", x.count(12), other);
        is(when + ": count(13)", x.count(13), state);
        is(when + ": count(14)", x.count(14), below);
        is(when + ": count(15)", x.count(15), 0);
        is(when + ": count(16)", x.count(16), room);
    }

    // ---- pairs

    private static void newObject() {
        SquareRooms x = new SquareRooms();
        int[] due = {7, 0, 0, 0, 0, 0};
        for (int what = 0; what < due.length; what++) {
            is("new: count(" + what + ")", x.count(what), due[what]);
        }
        refusals("new", x, 0, 0, 0, 0, 0);
        is("new: at(6, 6, 0)", x.at(6, 6, 0), -9);
        is("new: at(7, 0, 0)", x.at(7, 0, 0), -1);
        is("new: look(0, 0)", x.look(0, 0), 4000000000000000011L);
    }

    private static void letter() {
        SquareRooms x = new SquareRooms();
        is("letter(-1)", x.letter(-1), -4);
        is("letter(LOW)", x.letter(LOW), -4);
        is("letter(256)", x.letter(256), -6);
        is("letter(HIGH)", x.letter(HIGH), -6);
        is("letter(0)", x.letter(0), 1);
        is("letter(255)", x.letter(255), 2);
        for (int i = 3; i <= 72; i++) {
            is("letter 'n'", x.letter('n'), i);
        }
        is("a 73rd letter", x.letter('n'), -6);
        is("a 73rd letter below", x.letter(-1), -4);
        is("count(4)", x.count(4), 72);
        refusals("letter", x, 0, 0, 0, 3, 3);
    }

    private static void text() {
        SquareRooms x = new SquareRooms();
        is("n09p..a..t..", Rooms.told(x, "n09;p0102;p0806;a107;t312;t104;"), 6);
        is("count(0)", x.count(0), 9);
        is("count(1)", x.count(1), 2);
        is("count(2)", x.count(2), 2);
        is("count(4)", x.count(4), 0);
        pairIs("text", x, 0, 1, 2, 0);
        pairIs("text", x, 1, 8, 6, 7);
        x.cell(0, 0, 1, 2);
        is("n09;", Rooms.told(x, "n09;"), 1);
        is("count(1) behind n", x.count(1), 0);
        is("count(2) behind n", x.count(2), 0);
        is("count(3) behind n", x.count(3), 0);
        x.cell(0, 0, 1, 2);
        is("p0102; keeps THE ROOM", Rooms.told(x, "p0102;"), 1);
        is("count(3) behind p", x.count(3), 1);
        is("72 letters", Rooms.told(x, "n03;n05;n07;n09;n11;n13;n03;n05;n07;n09;n11;n13;n03;n05;n07;n09;n11;n13;"), 18);
        is("count(0)", x.count(0), 13);
        refusals("text", x, 0, 0, 0, 0, 0);
    }

    private static void textFaultsOfKind1() {
        SquareRooms x = Rooms.ofSize(7, 1, 2);
        String[] wrong = {"", "x", "n", "n0", "n07", "n07:", "nn", "n0;", "n007;", "p0102", "p010;", "p01023", "a",
            "a0;", "a00;", "a001", "t0000;", "n07;;", "n07;x", "n07; ", "N07;", ";", "0", "n07;p0102;t", "p0/02;",
            "p0:02;", "n08;z", "t90;"};
        int[] place = {0, 0, 1, 2, 3, 3, 1, 2, 3, 5, 4, 5, 1, 2, 3, 4, 4, 4, 4, 4, 0, 0, 0, 11, 2, 2, 4, 3};
        for (int i = 0; i < wrong.length; i++) {
            is("text " + wrong[i], Rooms.told(x, wrong[i]), -1000 - place[i]);
            is("letters behind " + wrong[i], x.count(4), 0);
        }
        is("n07 and lacks, 72 letters",
            Rooms.told(x, "n03;n05;n07;n09;n11;n13;n03;n05;n07;n09;n11;n13;n03;n05;n07;n09;n11;p010"), -1072);
        is("letter 255 in a text", Rooms.told(x, "n07;\u00ff"), -1004);
        pairIs("faults of kind 1", x, 0, 1, 2, 0);
        refusals("faults of kind 1", x, 0, 0, 0, 0, 0);
    }

    private static void textFaultsOfKind2() {
        SquareRooms x = Rooms.ofSize(7, 1, 2);
        x.turn(0, 2);
        x.cell(1, 1, 1, 1 + 1);
        String[] wrong = {"n00;", "n01;", "n02;", "n08;", "n14;", "n15;", "n99;", "p0001;", "p0100;", "p0701;",
            "p0107;", "p0303;", "a100;", "a007;", "a900;", "t600;", "t900;", "t013;", "t099;", "n03;p0102;p0201;",
            "p0304;p0506;p0102;", "t000;t000;t000;t000;t000;t000;", "n05;a000;", "n13;p1212;", "n13;p1201;a013;",
            "n03;p0103;"};
        int[] place = {0, 0, 0, 0, 0, 0, 0, 0, 0, 0, 0, 0, 0, 0, 0, 0, 0, 0, 0, 10, 12, 25, 4, 4, 10, 4};
        for (int i = 0; i < wrong.length; i++) {
            is("text " + wrong[i], Rooms.told(x, wrong[i]), -2000 - place[i]);
            is("letters behind " + wrong[i], x.count(4), 0);
        }
        is("SIZE stays", x.count(0), 7);
        is("PAIRS stay", x.count(1), 1);
        is("TURNS stay", x.count(2), 1);
        is("THE ROOM stays", x.count(3), 1);
        is("what can be UNDONE stays", x.count(5), 1);
        refusals("faults of kind 2", x, 0, 0, 0, 0, 0);
        is("what others made is ahead of it", Rooms.told(x, "a006;t512;p0605;"), 3);
        pairIs("ahead", x, 0, 1, 2, 6);
    }

    private static void size() {
        SquareRooms x = Rooms.ofSize(7, 1, 2);
        x.turn(1, 1);
        x.cell(0, 0, 0, 1);
        is("size(2)", x.size(2), -4);
        is("size(LOW)", x.size(LOW), -4);
        is("size(14)", x.size(14), -6);
        is("size(15)", x.size(15), -6);
        is("size(HIGH)", x.size(HIGH), -6);
        is("size(4)", x.size(4), -3);
        is("size(12)", x.size(12), -3);
        is("count(1)", x.count(1), 1);
        is("size(7)", x.size(7), 7);
        is("count(1)", x.count(1), 0);
        is("count(2)", x.count(2), 0);
        is("count(3)", x.count(3), 0);
        is("size(13)", x.size(13), 7);
        is("size(3)", x.size(3), 13);
        is("count(0)", x.count(0), 3);
        refusals("size", x, 0, 0, 2, 2, 3);
    }

    private static void pair() {
        SquareRooms x = Rooms.ofSize(5);
        is("pair(0, 1)", x.pair(0, 1), -4);
        is("pair(1, 0)", x.pair(1, 0), -4);
        is("pair(0, 9)", x.pair(0, 9), -4);
        is("pair(9, LOW)", x.pair(9, LOW), -4);
        is("pair(5, 1)", x.pair(5, 1), -6);
        is("pair(1, 5)", x.pair(1, 5), -6);
        is("pair(HIGH, HIGH)", x.pair(HIGH, HIGH), -6);
        is("pair(4, 4)", x.pair(4, 4), -3);
        is("pair(4, 1)", x.pair(4, 1), 0);
        is("pair(1, 4)", x.pair(1, 4), 1);
        pairIs("pair", x, 0, 4, 1, 0);
        pairIs("pair", x, 1, 1, 4, 0);
        is("pair, WHOLE", x.pair(2, 3), -6);
        is("pair, WHOLE, both one", x.pair(2, 2), -6);
        is("pair, WHOLE, below", x.pair(0, 2), -4);
        x.adder(1, 3);
        x.drop();
        x.pair(2, 3);
        pairIs("pair again", x, 1, 2, 3, 0);
        refusals("pair", x, 0, 0, 1, 5, 5);
    }

    private static void drop() {
        SquareRooms x = Rooms.ofSize(7, 1, 2, 3, 4);
        is("drop()", x.drop(), 1);
        pairIs("drop", x, 0, 1, 2, 0);
        is("of(1, 0)", x.of(1, 0), -1);
        is("drop()", x.drop(), 0);
        is("drop()", x.drop(), -3);
        refusals("drop", x, 1, 0, 1, 0, 0);
    }

    private static void adder() {
        SquareRooms x = Rooms.ofSize(7, 1, 2, 3, 4);
        is("adder(1, 6)", x.adder(1, 6), 0);
        is("adder(1, 0)", x.adder(1, 0), 6);
        is("adder(0, 3)", x.adder(0, 3), 0);
        is("adder(2, -1)", x.adder(2, -1), -1);
        is("adder(-1, 9)", x.adder(-1, 9), -1);
        is("adder(LOW, 0)", x.adder(LOW, 0), -1);
        is("adder(HIGH, 0)", x.adder(HIGH, 0), -1);
        is("adder(0, -1)", x.adder(0, -1), -4);
        is("adder(0, 7)", x.adder(0, 7), -6);
        is("adder(0, HIGH)", x.adder(0, HIGH), -6);
        pairIs("adder", x, 0, 1, 2, 3);
        refusals("adder", x, 4, 0, 0, 1, 2);
    }

    private static void of() {
        SquareRooms x = Rooms.ofSize(7, 2, 6, 5, 4);
        x.adder(0, 3);
        int[] due = {2, 6, 3, 1, 3};
        int[] dueOther = {5, 4, 0, 2, 1};
        for (int what = 0; what < 5; what++) {
            is("of(0, " + what + ")", x.of(0, what), due[what]);
            is("of(1, " + what + ")", x.of(1, what), dueOther[what]);
        }
        is("of(2, 9)", x.of(2, 9), -1);
        is("of(-1, 0)", x.of(-1, 0), -1);
        is("of(0, 5)", x.of(0, 5), -2);
        is("of(0, -1)", x.of(0, -1), -2);
        is("of(HIGH, 0)", x.of(HIGH, 0), -1);
        is("of(0, LOW)", x.of(0, LOW), -2);
        refusals("of", x, 3, 3, 0, 0, 0);
    }

    private static void areSuch(String when, SquareRooms x, int... due) {
        for (int what = 0; what < due.length; what++) {
            is(when + ": is(" + what + ")", x.is(what), due[what]);
        }
    }

    private static void is() {
        areSuch("new", new SquareRooms(), 0, 0, 0, 0, 0);
        areSuch("two of three", Rooms.ofSize(7, 1, 3, 2, 6), 0, 0, 0, 0, 0);
        areSuch("a number twice", Rooms.ofSize(7, 1, 3, 2, 1, 4, 5), 1, 0, 0, 0, 0);
        areSuch("a difference twice", Rooms.ofSize(7, 1, 2, 3, 4, 5, 6), 1, 0, 0, 0, 0);
        areSuch("all differences, not all numbers", Rooms.ofSize(7, 1, 2, 1, 3, 1, 4), 1, 0, 0, 0, 0);
        areSuch("the BOOK's pairs", Rooms.ofSize(7, 1, 6, 2, 5, 3, 4), 1, 1, 0, 0, 0);
        areSuch("sums 4, 1, 2", Rooms.ofSize(7, 3, 1, 6, 2, 4, 5), 1, 1, 1, 1, 0);
        areSuch("sums alike, none 0: 3, 8, 6, 6", Rooms.ofSize(9, 1, 2, 3, 5, 7, 8, 4, 6), 1, 0, 0, 0, 0);
        areSuch("9: a starter, sums 3, 0, 2, 4", Rooms.ofSize(9, 1, 2, 3, 6, 4, 7, 5, 8), 1, 0, 0, 0, 0);
        areSuch("13: strong", Rooms.ofSize(13, 1, 2, 3, 6, 4, 11, 5, 9, 7, 12, 8, 10), 1, 1, 1, 1, 0);
        areSuch("3", Rooms.ofSize(3, 2, 1), 1, 1, 0, 0, 0);
        SquareRooms x = Rooms.ofSize(7, 1, 6, 2, 5, 3, 4);
        int[][] rows = {{2, 4, 1}, {5, 3, 6}, {2, 4, 2}, {2, 4, 0}, {0, 0, 0}, {2, 3, 1}, {4, 4, 1}};
        for (int i = 0; i < rows.length; i++) {
            for (int k = 0; k < 3; k++) {
                x.adder(k, rows[i][k]);
            }
            is("adders " + i + ": is(4)", x.is(4), i < 2 ? 1 : 0);
        }
        is("is(5)", x.is(5), -2);
        is("is(-1)", x.is(-1), -2);
        is("is(HIGH)", x.is(HIGH), -2);
        refusals("is", x, 0, 3, 0, 0, 0);
    }

    private static void book() {
        SquareRooms x = Rooms.ofSize(7, 1, 2);
        x.turn(0, 3);
        x.cell(2, 2, 0, 7);
        is("book()", x.book(), 3);
        pairIs("book 7", x, 0, 1, 6, 2);
        pairIs("book 7", x, 1, 2, 5, 4);
        pairIs("book 7", x, 2, 3, 4, 1);
        is("TURNS stay", x.count(2), 1);
        is("THE ROOM stays", x.count(3), 1);
        x.size(11);
        is("book() of 11", x.book(), 5);
        int[] adders = {3, 5, 9, 1, 4};
        for (int k = 0; k < 5; k++) {
            pairIs("book 11", x, k, k + 1, 10 - k, adders[k]);
        }
        x.size(9);
        is("book() of 9", x.book(), 4);
        for (int k = 0; k < 4; k++) {
            pairIs("book 9", x, k, k + 1, 8 - k, 0);
        }
        x.size(13);
        x.pair(1, 2);
        is("book() of 13", x.book(), -6);
        is("PAIRS stay", x.count(1), 1);
        refusals("book", x, 0, 0, 0, 0, 1);
    }

    private static void right() {
        SquareRooms x = Rooms.ofSize(7, 3, 1, 2, 6, 4, 5);
        // BOOK: 4, 3 have difference 1; 1, 6 have 2; 5, 2 have 3
        is("right(1)", x.right(1), 1);
        is("right(2)", x.right(2), 2);
        is("right(3)", x.right(3), 4);
        is("right(0)", x.right(0), 1);
        is("right(4)", x.right(4), -6);
        is("right(-1)", x.right(-1), -4);
        is("right(LOW)", x.right(LOW), -4);
        is("right(HIGH)", x.right(HIGH), -6);
        x.drop();
        is("right(0), no STARTER", x.right(0), -3);
        is("right(9), no STARTER", x.right(9), -6);
        is("right(-9), no STARTER", x.right(-9), -4);
        refusals("right", x, 0, 0, 1, 3, 3);
        SquareRooms other = Rooms.ofSize(9, 1, 2, 3, 6, 4, 8, 5, 7);
        // BOOK: 5, 4 differ by 1; 1, 8 by 2; 6, 3 by 3; 2, 7 by 4 (2 less 7); SHIFTS 6, 6, 0, 6
        is("9: right(1)", other.right(1), 6);
        is("9: right(2)", other.right(2), 6);
        is("9: right(3)", other.right(3), 0);
        is("9: right(4)", other.right(4), 6);
        is("9: right(0)", other.right(0), 0);
        SquareRooms alike = Rooms.ofSize(9, 1, 2, 3, 7, 4, 6, 5, 8);
        // SHIFTS 6, 5, 2, 5
        is("alike: right(1)", alike.right(1), 6);
        is("alike: right(4)", alike.right(4), 5);
        is("alike, none 0: right(0)", alike.right(0), 0);
        SquareRooms large = Rooms.ofSize(13, 1, 2, 3, 6, 4, 11, 5, 9, 7, 12, 8, 10);
        is("13: right(1)", large.right(1), 8);
        is("13: right(0)", large.right(0), 1);
        is("13: right(6)", large.right(6), 1);
    }

    // ---- the room

    private static void build() {
        SquareRooms x = new SquareRooms();
        is("build(), not WHOLE", x.build(), -3);
        x.book();
        x.cell(0, 1, 3, 4);
        is("build()", x.build(), 0);
        is("count(3)", x.count(3), 28);
        // row 1: FAR and 1; 2, 0 at 1 - 2; 3, 6 at 1 - 4; 4, 5 at 0
        int[] points = {4, 5, 1, 7, -9, -9, -9, -9, 3, 6, -9, -9, 0, 2};
        for (int c = 0; c < 7; c++) {
            is("at(1, " + c + ", 0)", x.at(1, c, 0), points[2 * c]);
            is("at(1, " + c + ", 1)", x.at(1, c, 1), points[2 * c + 1]);
        }
        SquareRooms lost = Rooms.ofSize(5, 1, 4, 2, 3);
        lost.adder(0, 2);
        lost.adder(1, 2);
        is("5, adders 2, 2", lost.build(), 5);
        is("the first stays", lost.at(0, 3, 1), 4);
        lost.adder(0, 0);
        is("5, adders 0, 2", lost.build(), 5);
        is("the second is laid", lost.at(0, 3, 1), 3);
        lost.adder(1, 0);
        is("5, adders 0, 0", lost.build(), 10);
        SquareRooms any = Rooms.ofSize(5, 1, 2, 1, 2);
        any.adder(1, 1);
        is("WHOLE, no STARTER", any.build(), 5);
        is("at(4, 3, 0)", any.at(4, 3, 0), 0);
        is("at(4, 3, 1)", any.at(4, 3, 1), 1);
        refusals("build", x, 0, 0, 1, 0, 0);
    }

    private static void cell() {
        SquareRooms x = Rooms.ofSize(5);
        is("cell(0, 0, 2, 1)", x.cell(0, 0, 2, 1), 0);
        is("cell(0, 0, 5, 0)", x.cell(0, 0, 5, 0), 1);
        is("at(0, 0, 0)", x.at(0, 0, 0), 0);
        is("at(0, 0, 1)", x.at(0, 0, 1), 5);
        is("cell(0, 0, -1, HIGH)", x.cell(0, 0, -1, HIGH), 1);
        is("cell(0, 0, -1, -1)", x.cell(0, 0, -1, -1), 0);
        is("at(0, 0, 1)", x.at(0, 0, 1), -9);
        is("cell(4, 4, 0, 1)", x.cell(4, 4, 0, 1), 0);
        int[][] none = {{5, 0}, {0, 5}, {-1, 0}, {0, -1}, {HIGH, 0}, {0, LOW}};
        for (int[] place : none) {
            is("cell, no such CELL", x.cell(place[0], place[1], -2, -2), -1);
        }
        is("cell(0, 0, -2, 9)", x.cell(0, 0, -2, 9), -4);
        is("cell(0, 0, LOW, 1)", x.cell(0, 0, LOW, 1), -4);
        is("cell(0, 0, 9, -1)", x.cell(0, 0, 9, -1), -4);
        is("cell(0, 0, 6, 6)", x.cell(0, 0, 6, 6), -6);
        is("cell(0, 0, 6, 1)", x.cell(0, 0, 6, 1), -6);
        is("cell(0, 0, 1, HIGH)", x.cell(0, 0, 1, HIGH), -6);
        is("cell(0, 0, 3, 3)", x.cell(0, 0, 3, 3), -3);
        is("count(3)", x.count(3), 1);
        is("count(5)", x.count(5), 5);
        refusals("cell", x, 6, 0, 1, 3, 3);
    }

    private static void at() {
        SquareRooms x = Rooms.ofSize(13);
        x.cell(12, 11, 13, 12);
        is("at(12, 11, 0)", x.at(12, 11, 0), 12);
        is("at(12, 11, 1)", x.at(12, 11, 1), 13);
        is("at(11, 12, 0)", x.at(11, 12, 0), -9);
        is("at(13, 0, 5)", x.at(13, 0, 5), -1);
        is("at(0, 13, 0)", x.at(0, 13, 0), -1);
        is("at(-1, 0, 0)", x.at(-1, 0, 0), -1);
        is("at(0, LOW, 0)", x.at(0, LOW, 0), -1);
        is("at(HIGH, HIGH, 0)", x.at(HIGH, HIGH, 0), -1);
        is("at(0, 0, 2)", x.at(0, 0, 2), -2);
        is("at(0, 0, -1)", x.at(0, 0, -1), -2);
        refusals("at", x, 5, 2, 0, 0, 0);
    }

    private static void faults() {
        SquareRooms x = Rooms.ofSize(5);
        is("empty: faults(0, 0)", x.faults(0, 0), 6);
        is("empty: faults(1, 4)", x.faults(1, 4), 6);
        is("empty: faults(2, HIGH)", x.faults(2, HIGH), 15);
        x.cell(1, 0, 0, 5);
        x.cell(1, 2, 0, 3);
        is("0 twice in a row", x.faults(0, 1), 4);
        is("column 0", x.faults(1, 0), 4);
        is("column 1", x.faults(1, 1), 6);
        is("two pairs", x.faults(2, -1), 13);
        x.cell(3, 2, 3, 0);
        is("0, 3 twice in a column", x.faults(1, 2), 6);
        is("0, 3 twice", x.faults(2, 0), 14);
        x.cell(4, 2, 0, 3);
        is("0, 3 thrice in a column", x.faults(1, 2), 6);
        is("0, 3 thrice", x.faults(2, 0), 14);
        is("faults(3, 0)", x.faults(3, 9), -2);
        is("faults(-1, 0)", x.faults(-1, 0), -2);
        is("faults(0, 5)", x.faults(0, 5), -1);
        is("faults(1, -1)", x.faults(1, -1), -1);
        is("faults(1, HIGH)", x.faults(1, HIGH), -1);
        refusals("faults", x, 3, 2, 0, 0, 0);
    }

    private static void indeed() {
        SquareRooms x = new SquareRooms();
        is("empty: indeed()", x.indeed(), 0);
        x.book();
        x.build();
        is("the BOOK's: indeed()", x.indeed(), 1);
        x.cell(1, 2, 0, 1);
        is("one more: indeed()", x.indeed(), 0);
        x.cell(1, 2, -1, 0);
        is("it is away: indeed()", x.indeed(), 1);
        x.cell(1, 1, -1, 0);
        is("one less: indeed()", x.indeed(), 0);
        x.cell(1, 1, 2, 7);
        is("one other: indeed()", x.indeed(), 0);
        // rows and columns right, pairs not: the rows 0, 1, 2 of 3 shifts of one matching
        SquareRooms square = Rooms.ofSize(5);
        int[] points = {0, 1, 2, 3, 4, 5};
        for (int r = 0; r < 5; r++) {
            for (int j = 0; j < 3; j++) {
                square.cell(r, (r + j) % 5, points[2 * j], points[2 * j + 1]);
            }
        }
        is("a row without faults", square.faults(0, 2), 0);
        is("a column without faults", square.faults(1, 2), 0);
        is("pairs five times: indeed()", square.indeed(), 0);
        refusals("indeed", x, 0, 0, 0, 0, 0);
    }

    private static void faced() {
        SquareRooms x = Rooms.ofSize(3);
        is("empty: faced()", x.faced(), 6);
        x.cell(0, 0, 0, 1);
        is("one on the diagonal", x.faced(), 6);
        x.cell(0, 1, 0, 1);
        is("one beside it", x.faced(), 4);
        x.cell(1, 0, 2, 3);
        is("one that faces it", x.faced(), 6);
        x.cell(2, 1, 2, 3);
        x.cell(0, 2, 2, 3);
        is("two that face none", x.faced(), 2);
    }

    private static void where() {
        SquareRooms x = Rooms.ofSize(13);
        is("where(0, 13)", x.where(0, 13), -9);
        x.cell(12, 3, 0, 13);
        is("where(0, 13)", x.where(0, 13), 1203);
        is("where(13, 0)", x.where(13, 0), 1203);
        x.cell(5, 12, 0, 13);
        is("the first by rows", x.where(0, 13), 512);
        x.cell(5, 2, 13, 0);
        is("then by columns", x.where(0, 13), 502);
        x.cell(0, 0, 0, 12);
        is("where(12, 0)", x.where(12, 0), 0);
        is("where(-1, 14)", x.where(-1, 14), -4);
        is("where(14, -1)", x.where(14, -1), -4);
        is("where(14, 14)", x.where(14, 14), -6);
        is("where(14, 0)", x.where(14, 0), -6);
        is("where(0, HIGH)", x.where(0, HIGH), -6);
        is("where(LOW, 0)", x.where(LOW, 0), -4);
        is("where(13, 13)", x.where(13, 13), -3);
        refusals("where", x, 0, 0, 1, 3, 3);
    }

    // ---- searches

    private static void starters() {
        int[] many = {1, 1, 3, 9, 25};
        SquareRooms x = new SquareRooms();
        for (int i = 0; i < many.length; i++) {
            x.size(3 + 2 * i);
            is("starters(-1, 99)", x.starters(-1, 99), many[i]);
            is("the last's last", x.starters(many[i] - 1, i) > 0 ? 1 : 0, 1);
            is("one behind the last", x.starters(many[i], i), -9);
            is("starters(HIGH, 0)", x.starters(HIGH, 0), -9);
        }
        int[] sixth = {3, 7, 1, 0};
        x.size(9);
        int[][] due = {{2, 6, 8, 7}, {2, 7, 6, 8}, {3, 5, 8, 7}, {4, 6, 5, 8}, {5, 3, 7, 8}, {5, 4, 6, 8}, {6, 8, 4, 7},
            {7, 4, 8, 6}, {8, 7, 6, 5}};
        for (int i = 0; i < due.length; i++) {
            for (int k = 0; k < sixth.length; k++) {
                is("9: starters(" + i + ", " + k + ")", x.starters(i, k), due[i][k]);
            }
        }
        x.size(11);
        int[] last = {10, 9, 8, 7, 6};
        for (int k = 0; k < last.length; k++) {
            is("11: starters(24, " + k + ")", x.starters(24, k), last[k]);
        }
        is("starters(0, 5)", x.starters(0, 5), -1);
        is("starters(0, -1)", x.starters(0, -1), -1);
        is("starters(99, HIGH)", x.starters(99, HIGH), -1);
        is("starters(-2, 9)", x.starters(-2, 9), -4);
        x.size(13);
        is("13: starters(0, 99)", x.starters(0, 99), -3);
        is("13: starters(-1, 0)", x.starters(-1, 0), -3);
        is("13: starters(LOW, 0)", x.starters(LOW, 0), -4);
        refusals("starters", x, 3, 0, 2, 2, 0);
    }

    private static void strong() {
        int[] many = {0, 0, 2, 0, 4};
        SquareRooms x = new SquareRooms();
        for (int i = 0; i < many.length; i++) {
            x.size(3 + 2 * i);
            is("strong(0)", x.strong(0), many[i]);
            is("strong(1)", x.strong(1), many[i]);
        }
        is("strong(2)", x.strong(2), -2);
        x.size(13);
        is("13: strong(-1)", x.strong(-1), -2);
        is("13: strong(1)", x.strong(1), -3);
        refusals("strong", x, 0, 2, 1, 0, 0);
    }

    private static void adders() {
        SquareRooms x = Rooms.ofSize(7, 1, 6, 2, 5, 3, 4);
        is("adders(-1, 99)", x.adders(-1, 99), 2);
        int[][] due = {{2, 4, 1}, {5, 3, 6}, {-9, -9, -9}};
        for (int i = 0; i < 3; i++) {
            for (int k = 0; k < 3; k++) {
                is("adders(" + i + ", " + k + ")", x.adders(i, k), due[i][k]);
            }
        }
        is("adders(HIGH, 0)", x.adders(HIGH, 0), -9);
        is("adders(0, 3)", x.adders(0, 3), -1);
        is("adders(9, -1)", x.adders(9, -1), -1);
        is("adders(-2, 3)", x.adders(-2, 3), -4);
        x.drop();
        is("no STARTER: adders(-1, 0)", x.adders(-1, 0), -3);
        is("no STARTER: adders(0, 9)", x.adders(0, 9), -3);
        is("no STARTER: adders(LOW, 0)", x.adders(LOW, 0), -4);
        x.pair(4, 3);
        x.adder(0, 6);
        is("ADDERS that are there don't matter", x.adders(0, 0), 2);
        is("of(0, 2) stays", x.of(0, 2), 6);
        SquareRooms mixed = Rooms.ofSize(7, 4, 3, 6, 1, 5, 2);
        is("by the PAIRS' order", mixed.adders(0, 0), 1);
        is("by the PAIRS' order", mixed.adders(0, 1), 2);
        is("by the PAIRS' order", mixed.adders(1, 0), 6);
        SquareRooms eleven = Rooms.ofSize(11, 1, 10, 2, 9, 3, 8, 4, 7, 5, 6);
        is("11: adders(-1, 0)", eleven.adders(-1, 0), 4);
        int[][] dueOf11 = {{3, 5, 9, 1, 4}, {5, 1, 4, 9, 3}, {6, 10, 7, 2, 8}, {8, 6, 2, 10, 7}};
        for (int i = 0; i < 4; i++) {
            for (int k = 0; k < 5; k++) {
                is("11: adders(" + i + ", " + k + ")", eleven.adders(i, k), dueOf11[i][k]);
            }
        }
        SquareRooms large = Rooms.ofSize(13, 1, 2, 3, 6, 4, 11, 5, 9, 7, 12, 8, 10);
        is("13: a STARTER", large.is(1), 1);
        is("13: adders(-1, 0)", large.adders(-1, 0), -3);
        refusals("adders", x, 2, 0, 2, 2, 0);
    }

    private static void odds() {
        int[] above = {0, 0, 2, 0, 4};
        int[] below = {1, 1, 3, 1, 25};
        SquareRooms x = new SquareRooms();
        for (int i = 0; i < above.length; i++) {
            x.size(3 + 2 * i);
            is("odds(0)", x.odds(0), above[i]);
            is("odds(1)", x.odds(1), below[i]);
        }
        is("odds(2)", x.odds(2), 4000000000000000002L);
        x.size(13);
        is("13: odds(-1)", x.odds(-1), 4000000000000000002L);
        is("13: odds(1)", x.odds(1), 4000000000000000003L);
        refusals("odds", x, 0, 2, 1, 0, 0);
    }

    private static void lots() {
        SquareRooms x = Rooms.ofSize(7, 1, 6, 2, 5, 3, 4);
        // draws of the seed 1: 0 0, 0 0, 1 1, 2 0, 2 0, 0 2, 1 1
        int[] differences = {6, 6, 6, 2, 6, 2, 2};
        for (int m = 1; m <= 7; m++) {
            is("lots(" + m + ", 1, 0)", x.lots(m, 1, 0), m);
            is("lots(" + m + ", 1, 1)", x.lots(m, 1, 1), differences[m - 1]);
        }
        is("lots(1, -5, 1)", x.lots(1, -5, 1), 4);
        pairIs("PAIRS stay", x, 2, 3, 4, 0);
        is("count(5)", x.count(5), 0);
        // draws of the seed 7: 0 2, 2 1, 2 2, 0 0, 0 2, 1 0; the second and the sixth leave PAIRS alike
        SquareRooms alike = Rooms.ofSize(7, 1, 2, 2, 1, 3, 4);
        is("alike: lots(6, 7, 0)", alike.lots(6, 7, 0), 4);
        is("alike: lots(6, 7, 1)", alike.lots(6, 7, 1), 2);
        is("one PAIR: lots(50, LOW, 0)", Rooms.ofSize(3, 1, 2).lots(50, LOW, 0), 50);
        is("lots(0, 0, 9)", x.lots(0, 0, 9), -4);
        is("lots(LOW, 0, 0)", x.lots(LOW, 0, 0), -4);
        is("lots(51, 0, 9)", x.lots(51, 0, 9), -6);
        is("lots(50, 0, 2)", x.lots(50, 0, 2), -2);
        is("lots(50, 0, -1)", x.lots(50, 0, -1), -2);
        x.size(7);
        is("no PAIRS: lots(1, 0, 2)", x.lots(1, 0, 2), -2);
        is("no PAIRS: lots(1, 0, 0)", x.lots(1, 0, 0), -3);
        refusals("lots", x, 0, 3, 1, 2, 1);
    }

    // ---- turns

    private static void turn() {
        SquareRooms x = new SquareRooms();
        is("turn(6, -1)", x.turn(6, -1), -2);
        is("turn(-1, 99)", x.turn(-1, 99), -2);
        is("turn(HIGH, 0)", x.turn(HIGH, 0), -2);
        is("turn(0, -1)", x.turn(0, -1), -4);
        is("turn(0, LOW)", x.turn(0, LOW), -4);
        is("turn(0, 13)", x.turn(0, 13), -6);
        is("turn(5, HIGH)", x.turn(5, HIGH), -6);
        for (int kind = 0; kind < 6; kind++) {
            is("turn(" + kind + ", 12)", x.turn(kind, kind == 1 ? 0 : 12), kind + 1);
        }
        is("a seventh turn", x.turn(0, 1), -6);
        is("a seventh turn, below", x.turn(0, -1), -4);
        is("count(2)", x.count(2), 6);
        refusals("turn", x, 0, 3, 0, 3, 3);
    }

    private static void still() {
        SquareRooms x = new SquareRooms();
        is("still()", x.still(), 0);
        x.turn(1, 0);
        x.turn(2, 0);
        is("still()", x.still(), 2);
        is("count(2)", x.count(2), 0);
        is("turn() behind", x.turn(3, 1), 1);
        refusals("still", x, 0, 0, 0, 0, 0);
    }

    private static void turned() {
        turnedIs("no TURNS", Rooms.bookTurned(), 1, 2, 5, 4);
        turnedIs("TIMES 3", Rooms.bookTurned(0, 3), 1, 6, 1, 5);
        turnedIs("TIMES 0", Rooms.bookTurned(0, 0), 2, 0, 0, 0);
        turnedIs("TIMES 12", Rooms.bookTurned(0, 12), 0, 5, 2, 3);
        turnedIs("LESS", Rooms.bookTurned(1, 5), 0, 6, 1, 5);
        turnedIs("ABOUT", Rooms.bookTurned(2, 5), 0, 3, 4, 1);
        turnedIs("ABOUT", Rooms.bookTurned(2, 0), 2, 1, 6, 2);
        turnedIs("ROUND 1", Rooms.bookTurned(3, 1), 0, 2, 5, 4);
        turnedIs("ROUND 1", Rooms.bookTurned(3, 1), 2, 1, 6, 2);
        turnedIs("ROUND 11", Rooms.bookTurned(3, 11), 0, 3, 4, 1);
        turnedIs("SWAP 3", Rooms.bookTurned(4, 3), 0, 6, 1, 2);
        turnedIs("SWAP 4", Rooms.bookTurned(4, 4), 0, 1, 6, 2);
        turnedIs("SHARE 1", Rooms.bookTurned(5, 1), 0, 1, 6, 4);
        turnedIs("SHARE 1", Rooms.bookTurned(5, 1), 2, 3, 4, 2);
        turnedIs("SHARE 12", Rooms.bookTurned(5, 12), 1, 2, 5, 4);
        turnedIs("ROUND, ABOUT", Rooms.bookTurned(3, 1, 2, 0), 0, 1, 6, 2);
        turnedIs("ABOUT, ROUND", Rooms.bookTurned(2, 0, 3, 1), 0, 2, 5, 4);
        turnedIs("ABOUT, ROUND", Rooms.bookTurned(2, 0, 3, 1), 1, 1, 6, 2);
        SquareRooms x = Rooms.bookTurned(0, 2, 4, 1, 5, 1, 3, 1, 1, 0, 2, 0);
        // TIMES 2: 2 5 4, 4 3 1, 6 1 2; SWAP: 5 2 4, 3 4 1, 1 6 2; SHARE: 5 2 1, 3 4 2, 1 6 4;
        // ROUND: 3 4 2, 1 6 4, 5 2 1; LESS: 4 3 5, 6 1 3, 2 5 6; ABOUT
        turnedIs("six TURNS", x, 0, 2, 5, 6);
        turnedIs("six TURNS", x, 1, 6, 1, 3);
        turnedIs("six TURNS", x, 2, 4, 3, 5);
        pairIs("in thought", x, 0, 1, 6, 2);
        is("turned(3, 9)", x.turned(3, 9), -1);
        is("turned(-1, 0)", x.turned(-1, 0), -1);
        is("turned(HIGH, 0)", x.turned(HIGH, 0), -1);
        is("turned(0, 3)", x.turned(0, 3), -2);
        is("turned(0, -1)", x.turned(0, -1), -2);
        refusals("turned", x, 3, 2, 0, 0, 0);
    }

    private static void turns() {
        SquareRooms x = Rooms.bookTurned(3, 1, 0, 3);
        is("turns()", x.turns(), 3);
        pairIs("turns", x, 0, 6, 1, 5);
        pairIs("turns", x, 1, 2, 5, 3);
        pairIs("turns", x, 2, 3, 4, 6);
        is("TURNS stay", x.count(2), 2);
        is("count(5)", x.count(5), 1);
        is("is(4)", x.is(4), 1);
        x.turn(0, 7);
        is("TIMES 7 of 7", x.turns(), -3);
        is("it counts not", x.count(5), 1);
        pairIs("refused", x, 0, 6, 1, 5);
        SquareRooms nine = Rooms.ofSize(9, 3, 1);
        nine.turn(0, 3);
        is("a NUMBER becomes 0", nine.turns(), -3);
        is("in thought all the same", nine.turned(0, 0), 0);
        nine.drop();
        nine.pair(1, 4);
        is("two of a PAIR become alike", nine.turns(), -3);
        nine.drop();
        nine.pair(1, 2);
        is("it can be", nine.turns(), 1);
        pairIs("9", nine, 0, 3, 6, 0);
        is("not again", nine.turns(), -3);
        refusals("turns", nine, 0, 0, 3, 0, 0);
    }

    // ---- lists of numbers

    private static void list() {
        SquareRooms x = new SquareRooms();
        is("list(0, 40)", x.list(0, 40), 1);
        x.put(0, 39, 5);
        x.put(0, 0, 4);
        is("look(0, 39)", x.look(0, 39), 5);
        is("list(0, 41)", x.list(0, 41), -6);
        is("list(0, -1)", x.list(0, -1), -14);
        is("list(0, LOW)", x.list(0, LOW), -14);
        is("list(0, HIGH)", x.list(0, HIGH), -6);
        is("refused: it stays", x.look(0, 39), 5);
        is("list(3, -1)", x.list(3, -1), -1);
        is("list(-1, 41)", x.list(-1, 41), -1);
        is("list(LOW, 0)", x.list(LOW, 0), -1);
        is("list(0, 40) again", x.list(0, 40), 1);
        is("all 0", x.look(0, 39), 0);
        is("all 0", x.look(0, 0), 0);
        is("list(2, 0)", x.list(2, 0), 1);
        is("no place in it", x.look(2, 0), 4000000000000000013L);
        is("list 1 is missing", x.look(1, 0), 4000000000000000011L);
        refusals("list", x, 3, 0, 0, 0, 2);
    }

    private static void put() {
        SquareRooms x = new SquareRooms();
        is("put, missing", x.put(1, -1, 1), -11);
        is("put, no LIST", x.put(3, 0, 1), -1);
        is("put, no LIST", x.put(-1, 0, 1), -1);
        x.list(1, 2);
        is("put(1, 0, LOW)", x.put(1, 0, LOW), 1);
        is("put(1, 1, HIGH)", x.put(1, 1, HIGH), 1);
        is("put(1, 2, 0)", x.put(1, 2, 0), -13);
        is("put(1, -1, 0)", x.put(1, -1, 0), -13);
        is("put(1, HIGH, 0)", x.put(1, HIGH, 0), -13);
        is("put(1, LOW, 0)", x.put(1, LOW, 0), -13);
        is("look(1, 0)", x.look(1, 0), LOW);
        is("look(1, 1)", x.look(1, 1), HIGH);
        refusals("put", x, 2, 0, 0, 0, 0);
    }

    private static void look() {
        SquareRooms x = new SquareRooms();
        is("look(3, 0)", x.look(3, 0), 4000000000000000001L);
        is("look(-1, 0)", x.look(-1, 0), 4000000000000000001L);
        is("look(2, -1)", x.look(2, -1), 4000000000000000011L);
        Rooms.fill(x, 2, -5, 6);
        is("look(2, 0)", x.look(2, 0), -5);
        is("look(2, 1)", x.look(2, 1), 6);
        is("look(2, 2)", x.look(2, 2), 4000000000000000013L);
        is("look(2, -1)", x.look(2, -1), 4000000000000000013L);
        is("look(2, LOW)", x.look(2, LOW), 4000000000000000013L);
        refusals("look", x, 2, 0, 0, 0, 0);
    }

    private static void lays() {
        SquareRooms x = Rooms.ofSize(7, 1, 2, 6, 4);
        is("lays, missing", x.lays(0, 0), -11);
        is("lays, no LIST", x.lays(3, 0), -1);
        Rooms.fill(x, 0, 9, 9, 9, 9, 9, 9);
        is("lays(0, 1)", x.lays(0, 1), 4);
        int[] due = {9, 1, 2, 6, 4, 9};
        for (int i = 0; i < due.length; i++) {
            is("look(0, " + i + ")", x.look(0, i), due[i]);
        }
        is("lays(0, 3)", x.lays(0, 3), -13);
        is("lays(0, -1)", x.lays(0, -1), -13);
        is("lays(0, HIGH)", x.lays(0, HIGH), -13);
        is("lays(0, LOW)", x.lays(0, LOW), -13);
        is("none is laid", x.look(0, 3), 6);
        is("none is laid", x.look(0, 0), 9);
        is("lays(0, 2)", x.lays(0, 2), 4);
        is("look(0, 5)", x.look(0, 5), 4);
        x.list(1, 3);
        is("a shorter one", x.lays(1, 0), -13);
        is("the last that has no place", x.lays(0, 6), -13);
        refusals("lays", x, 1, 0, 0, 0, 0);
        laysNothing();
    }

    /** With no PAIRS there are no numbers, so none lacks a place. */
    private static void laysNothing() {
        SquareRooms x = new SquareRooms();
        is("no PAIRS, missing", x.lays(0, 0), -11);
        is("no PAIRS, no LIST", x.lays(-1, 0), -1);
        x.list(0, 0);
        Rooms.fill(x, 1, 9, 8, 7);
        int[] places = {0, 1, 2, 3, 4, 39, 40, 41, -1, LOW, HIGH};
        for (int i : places) {
            is("no PAIRS: lays(0, " + i + ")", x.lays(0, i), 0);
            is("no PAIRS: lays(1, " + i + ")", x.lays(1, i), 0);
        }
        is("none is laid", x.look(1, 0), 9);
        is("none is laid", x.look(1, 2), 7);
        is("missing yet", x.lays(2, 5), -11);
        x.pair(1, 2);
        is("one PAIR, no place", x.lays(0, 0), -13);
        is("one PAIR, one place", x.lays(1, 2), -13);
        is("one PAIR, below", x.lays(1, -1), -13);
        is("one PAIR, two places", x.lays(1, 1), 2);
        is("look(1, 0)", x.look(1, 0), 9);
        is("look(1, 2)", x.look(1, 2), 2);
        x.drop();
        is("the PAIR went", x.lays(1, 3), 0);
        refusals("lays nothing", x, 1, 0, 0, 0, 0);
    }

    private static void judge() {
        SquareRooms x = Rooms.ofSize(7, 1, 2, 6, 4);
        is("judge, missing", x.judge(2), -11);
        is("judge, no LIST", x.judge(HIGH), -1);
        Rooms.fill(x, 0, 1, 2, 6, 4);
        is("all", x.judge(0), -9);
        Rooms.fill(x, 0, 1, 2, 6);
        is("fewer", x.judge(0), -9);
        Rooms.fill(x, 0);
        is("none", x.judge(0), -9);
        Rooms.fill(x, 0, 1, 2, 6, 4, 0);
        is("a PAIR that isn't there", x.judge(0), 4);
        Rooms.fill(x, 0, 1, 2, 4, 6);
        is("otherwise", x.judge(0), 2);
        Rooms.fill(x, 0, 2, 2, 6, 4);
        is("otherwise", x.judge(0), 0);
        Rooms.fill(x, 0, 1, 2, 6, 3, 9);
        is("otherwise", x.judge(0), 3);
        refusals("judge", x, 1, 0, 0, 0, 0);
    }

    private static void sizes() {
        SquareRooms x = new SquareRooms();
        is("sizes, missing", x.sizes(0), -11);
        is("sizes, no LIST", x.sizes(-1), -1);
        Rooms.fill(x, 0, 1, 2);
        is("1 2", x.sizes(0), 1);
        Rooms.fill(x, 0, 3, 2, 4, 1);
        is("3 2 4 1", x.sizes(0), 2);
        Rooms.fill(x, 0, 3, 1, 2, 6, 4, 5);
        is("3 1 2 6 4 5", x.sizes(0), 4);
        Rooms.fill(x, 0, 1, 8, 2, 7, 3, 6, 4, 5);
        is("the BOOK's of 9", x.sizes(0), 8);
        Rooms.fill(x, 0, 1, 10, 2, 9, 3, 8, 4, 7, 5, 6);
        is("the BOOK's of 11", x.sizes(0), 16);
        Rooms.fill(x, 0, 1, 12, 2, 11, 3, 10, 4, 9, 5, 8, 6, 7);
        is("the BOOK's of 13", x.sizes(0), 32);
        Rooms.fill(x, 0, 1, 14, 2, 13, 3, 12, 4, 11, 5, 10, 6, 9, 7, 8);
        is("the BOOK's of 15", x.sizes(0), 0);
        int[][] none = {{}, {1, 1}, {0, 1}, {1, 3}, {-1, 1}, {LOW, HIGH}, {33, 34}, {33, 2}, {1, 34}, {-31, 2}, {1, -30},
            {1, 98}, {97, 2}, {1, -94}, {-95, 2}, {2, 97}, {98, 1},
            {1, 2, 3, 4}, {1, 2, 1, 3},
            {1, 2, 3, 4, 5, 6}};
        for (int[] row : none) {
            Rooms.fill(x, 0, row);
            is("no STARTER", x.sizes(0), 0);
        }
        Rooms.fill(x, 0, 1, 2, 3);
        is("an odd size", x.sizes(0), -3);
        is("count(0)", x.count(0), 7);
        refusals("sizes", x, 1, 0, 1, 0, 0);
    }

    // ---- the image

    private static void undo() {
        SquareRooms x = Rooms.bookTurned(1, 0);
        is("undo(), none", x.undo(), -3);
        x.adder(0, 6);
        x.cell(3, 4, 0, 1);
        x.turns();
        x.cell(3, 4, 5, 7);
        x.adder(1, 0);
        pairIs("all done", x, 1, 5, 2, 0);
        is("undo()", x.undo(), 4);
        pairIs("adder undone", x, 1, 5, 2, 3);
        is("undo()", x.undo(), 3);
        is("cell undone", x.at(3, 4, 1), 1);
        is("undo()", x.undo(), 2);
        pairIs("turns undone", x, 0, 1, 6, 6);
        is("TURNS stay", x.count(2), 1);
        is("undo()", x.undo(), 1);
        is("cell undone", x.at(3, 4, 1), -9);
        is("undo()", x.undo(), 0);
        pairIs("adder undone", x, 0, 1, 6, 2);
        is("undo(), none", x.undo(), -3);
        x.adder(0, 2);
        is("all as it was counts", x.count(5), 1);
        x.adder(0, 9);
        is("refused counts not", x.count(5), 1);
        refusals("undo", x, 0, 0, 2, 0, 1);
        SquareRooms none = new SquareRooms();
        is("turns() of no PAIRS", none.turns(), 0);
        is("it counts", none.count(5), 1);
    }

    private static void undoKeepsTwelve() {
        SquareRooms x = Rooms.ofSize(13, 1, 2);
        for (int i = 0; i < 30; i++) {
            x.cell(i % 13, i / 13, 0, 1);
            is("count(5)", x.count(5), Math.min(12, i + 1));
        }
        for (int i = 11; i >= 0; i--) {
            is("undo()", x.undo(), i);
            is("count(3)", x.count(3), 18 + i);
        }
        is("undo(), none", x.undo(), -3);
        is("count(3)", x.count(3), 18);
        is("at(4, 1, 0)", x.at(4, 1, 0), 0);
        is("at(5, 1, 0)", x.at(5, 1, 0), -9);
    }

    private static SquareRooms withUndo() {
        SquareRooms x = new SquareRooms();
        x.book();
        x.image();
        x.adder(0, 1);
        x.cell(0, 0, 1, 2);
        return x;
    }

    private static void undoIsLeftNone() {
        SquareRooms x = withUndo();
        x.drop();
        is("drop() leaves none", x.undo(), -3);
        x.adder(0, 1);
        x.pair(1, 2);
        is("pair() leaves none", x.undo(), -3);
        x = withUndo();
        x.size(7);
        is("size() leaves none", x.undo(), -3);
        x = withUndo();
        x.book();
        is("book() leaves none", x.undo(), -3);
        x = withUndo();
        x.build();
        is("build() leaves none", x.undo(), -3);
        x = withUndo();
        x.on();
        is("ON leaves none", x.undo(), -3);
        x = withUndo();
        Rooms.told(x, "t000;");
        is("a TEXT leaves none", x.undo(), -3);
        x = withUndo();
        x.pair(1, 2);
        x.size(8);
        Rooms.told(x, "n08;");
        Rooms.told(x, "n");
        x.turn(0, 2);
        x.still();
        x.image();
        x.list(0, 6);
        x.lays(0, 0);
        is("what is refused and what else there is leave all", x.undo(), 1);
        SquareRooms refused = Rooms.ofSize(13);
        refused.cell(0, 0, 1, 2);
        refused.drop();
        refused.book();
        refused.build();
        refused.on();
        is("refused ones leave all", refused.undo(), 0);
    }

    private static void image() {
        SquareRooms x = new SquareRooms();
        is("image()", x.image(), 0);
        x.book();
        is("image()", x.image(), 3);
        refusals("image", x, 0, 0, 0, 0, 0);
    }

    private static void on() {
        SquareRooms x = new SquareRooms();
        is("on(), no IMAGE", x.on(), -3);
        x.book();
        x.turn(4, 1);
        x.build();
        x.image();
        x.turns();
        x.adder(0, 0);
        x.still();
        x.turn(3, 1);
        x.turn(1, 0);
        x.cell(0, 0, -1, 0);
        x.letter('n');
        Rooms.fill(x, 0, 4, 5);
        is("on()", x.on(), 3);
        pairIs("on", x, 0, 1, 6, 2);
        is("TURNS", x.count(2), 1);
        turnedIs("on", x, 0, 6, 1, 2);
        is("THE ROOM", x.indeed(), 1);
        is("letters stay", x.count(4), 1);
        is("LISTS stay", x.look(0, 1), 5);
        is("count(13) stays", x.count(13), 1);
        x.size(13);
        x.pair(12, 11);
        x.cell(12, 12, 13, 0);
        is("on() again", x.on(), 3);
        is("SIZE", x.count(0), 7);
        is("at(6, 6, 1)", x.at(6, 6, 1), 7);
        x.adder(0, 5);
        is("the IMAGE stays as it is", x.on(), 3);
        pairIs("on again", x, 0, 1, 6, 2);
        x.drop();
        x.image();
        x.book();
        is("the newer IMAGE", x.on(), 2);
        refusals("on", x, 0, 0, 1, 0, 0);
    }

    private static void count() {
        SquareRooms x = new SquareRooms();
        int[] none = {-1, 6, 7, 8, 9, 10, 17, 18, LOW, HIGH};
        for (int what : none) {
            is("count(" + what + ")", x.count(what), -9);
        }
        x.size(9);
        x.pair(1, 2);
        x.pair(3, 4);
        x.turn(0, 0);
        x.turn(0, 0);
        x.turn(0, 0);
        x.letter(0);
        for (int c = 0; c < 5; c++) {
            x.cell(1, c, 1, 2);
        }
        int[] due = {9, 2, 3, 5, 1, 5};
        for (int what = 0; what < due.length; what++) {
            is("count(" + what + ")", x.count(what), due[what]);
        }
        x.of(5, 0);
        x.of(0, 5);
        x.of(0, 5);
        x.on();
        x.size(-1);
        x.size(99);
        refusals("count", x, 1, 2, 1, 1, 1);
    }
}
