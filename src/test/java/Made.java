import java.util.List;
import java.util.function.Supplier;
import java.util.function.ToLongFunction;

/** Objects that can be made anew as often as a check wants one; a check goes over all of them. */
final class Made {
    private static final long LONG_REFUSALS = 4000000000000000000L;

    private final Sentences sentences;
    private final List<Supplier<SquareRooms>> makers;

    @SafeVarargs
    Made(Sentences sentences, Supplier<SquareRooms>... makers) {
        this.sentences = sentences;
        this.makers = List.of(makers);
    }

    /** The call isn't refused; what it changes is free. */
    void takes(long due, ToLongFunction<SquareRooms> call) {
        for (Supplier<SquareRooms> maker : makers) {
            SquareRooms x = maker.get();
            sentences.is(call.applyAsLong(x), due);
            refusalsAre(x, maker.get(), 0);
        }
    }

    /** The call isn't refused, and nothing changes. */
    void asks(long due, ToLongFunction<SquareRooms> call) {
        leaves(due, call, 0);
    }

    /** The call is refused, that is counted (but for those of lists), and nothing else changes. */
    void refuses(long due, ToLongFunction<SquareRooms> call) {
        leaves(due, call, due < 0 ? -due : due - LONG_REFUSALS);
    }

    private void leaves(long due, ToLongFunction<SquareRooms> call, long refusal) {
        for (Supplier<SquareRooms> maker : makers) {
            SquareRooms x = maker.get();
            SquareRooms untouched = maker.get();
            sentences.is(call.applyAsLong(x), due);
            refusalsAre(x, untouched, refusal);
            String want = Readout.of(untouched);
            String got = Readout.of(x);
            sentences.holds("it left " + got + "of " + want, got.equals(want) && !want.startsWith("too"));
        }
    }

    private void refusalsAre(SquareRooms x, SquareRooms untouched, long refusal) {
        for (int no = 1; no <= 6; no++) {
            sentences.is(x.count(10 + no), untouched.count(10 + no) + (no == refusal ? 1 : 0));
        }
    }
}
