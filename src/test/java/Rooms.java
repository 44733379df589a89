/** Objects in states that tests begin with; each call makes a new one. */
final class Rooms {
    private Rooms() {
    }

    static SquareRooms ofSize(int n, int... numbers) {
        SquareRooms x = new SquareRooms();
        x.size(n);
        for (int i = 0; i + 1 < numbers.length; i += 2) {
            x.pair(numbers[i], numbers[i + 1]);
        }
        return x;
    }

    /** PAIRS d and n less d, all ADDERS 0 (for n 13, too). */
    static SquareRooms starter(int n) {
        SquareRooms x = ofSize(n);
        for (int d = 1; d <= n / 2; d++) {
            x.pair(d, n - d);
        }
        return x;
    }

    /** PAIRS 1 6, 2 5, 3 4 with ADDERS 2, 4, 1, and TURNS told as KIND, u, one behind another. */
    static SquareRooms bookTurned(int... rules) {
        SquareRooms x = new SquareRooms();
        x.book();
        for (int i = 0; i + 1 < rules.length; i += 2) {
            x.turn(rules[i], rules[i + 1]);
        }
        return x;
    }

    static void letters(SquareRooms x, String letters) {
        for (int i = 0; i < letters.length(); i++) {
            x.letter(letters.charAt(i));
        }
    }

    static int told(SquareRooms x, String letters) {
        letters(x, letters);
        return x.text();
    }

    static void fill(SquareRooms x, int list, int... numbers) {
        x.list(list, numbers.length);
        for (int i = 0; i < numbers.length; i++) {
            x.put(list, i, numbers[i]);
        }
    }

    static SquareRooms filled(SquareRooms x, int list, int... numbers) {
        fill(x, list, numbers);
        return x;
    }

    /** SIZE 5: something of everything but letters, nothing full; the IMAGE is another one. */
    static SquareRooms busy() {
        SquareRooms x = ofSize(3, 1, 2);
        x.turn(4, 1);
        x.cell(2, 0, 3, 1);
        x.image();
        x.size(5);
        x.pair(4, 1);
        x.turn(0, 2);
        x.turn(1, 0);
        x.cell(0, 0, 0, 5);
        x.cell(4, 3, 2, 1);
        x.adder(0, 3);
        fill(x, 0, 4, 1, 0, -7, 9);
        x.list(2, 0);
        return x;
    }

    /** SIZE 3: as many PAIRS, TURNS, letters, filled CELLS and things to be UNDONE as there can be. */
    static SquareRooms full() {
        SquareRooms x = ofSize(3, 2, 1);
        x.image();
        for (int u = 0; u < 6; u++) {
            x.turn(u, 11 + u % 2);
        }
        for (int place = 0; place < 9; place++) {
            x.cell(place / 3, place % 3, place % 3, 3);
        }
        for (int v = 0; v < 5; v++) {
            x.adder(0, v % 3);
        }
        for (int i = 0; i < 18; i++) {
            letters(x, "n05;");
        }
        x.list(1, 40);
        x.put(1, 39, 5);
        return x;
    }
}
