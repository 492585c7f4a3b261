import java.util.function.Consumer;
import java.util.function.Function;
import java.util.function.Supplier;

/** Two nets made alike, of which one gets a call that is refused: nothing may tell them apart then. */
final class Twins {
    private final Supplier<BitNet> making;
    private final Function<BitNet, String> probe;
    private final String due;

    /** For a net that is made by less than 150 calls. */
    Twins(Supplier<BitNet> making) {
        this(making, Probe::of);
    }

    Twins(Supplier<BitNet> making, Function<BitNet, String> probe) {
        this.making = making;
        this.probe = probe;
        this.due = probe.apply(making.get());
    }

    void illegalArgument(String call, Consumer<BitNet> body) {
        BitNet net = making.get();
        Check.illegalArgument(call, () -> body.accept(net));
        Check.alike("after " + call, probe.apply(net), due);
    }

    void illegalState(String call, Consumer<BitNet> body) {
        BitNet net = making.get();
        Check.illegalState(call, () -> body.accept(net));
        Check.alike("after " + call, probe.apply(net), due);
    }
}
