/** All that can be seen of an object but how many REFUSALS there were; what is read so is used up. */
final class Readout {
    /** The document promises 512 calls; those that made the object are fewer than the rest. */
    private static final int MOST_CALLS = 380;

    private final SquareRooms x;
    private final StringBuilder told = new StringBuilder();
    private int calls = 0;

    private Readout(SquareRooms x) {
        this.x = x;
    }

    static String of(SquareRooms x) {
        Readout readout = new Readout(x);
        readout.all();
        return readout.calls <= MOST_CALLS ? readout.told.toString() : "too many calls: " + readout.calls;
    }

    private long tell(long answer) {
        calls++;
        told.append(answer).append(' ');
        return answer;
    }

    private void all() {
        now();
        for (int list = 0; list < 3; list++) {
            told.append("list ");
            boolean goesOn = true;
            for (int i = 0; i <= 40 && goesOn; i++) {
                goesOn = tell(x.look(list, i)) < 4000000000000000000L;
            }
        }
        for (int i = 0; i < 12; i++) {
            told.append("undo ");
            if (tell(x.undo()) < 0) {
                break;
            }
            pairs();
            cells();
        }
        told.append("on ");
        if (tell(x.on()) >= 0) {
            now();
        }
        told.append("text ");
        tell(x.text());
        counts();
    }

    private void now() {
        counts();
        pairs();
        for (int k = 0; k < x.count(1); k++) {
            tell(x.turned(k, 0));
            tell(x.turned(k, 1));
            tell(x.turned(k, 2));
        }
        cells();
    }

    private void counts() {
        for (int what = 0; what <= 5; what++) {
            tell(x.count(what));
        }
    }

    private void pairs() {
        for (int k = 0; k < x.count(1); k++) {
            tell(x.of(k, 0));
            tell(x.of(k, 1));
            tell(x.of(k, 2));
        }
    }

    private void cells() {
        int n = x.count(0);
        for (int place = 0; place < n * n; place++) {
            if (tell(x.at(place / n, place % n, 0)) >= 0) {
                tell(x.at(place / n, place % n, 1));
            }
        }
    }
}
