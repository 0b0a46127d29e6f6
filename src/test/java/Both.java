import java.util.function.Consumer;
import java.util.function.ToLongFunction;

/** A call that throws, made on one of two objects that are alike: both must be alike behind it, too. */
final class Both {
    private Both() {
    }

    static void refuse(String what, Class<? extends RuntimeException> want, Consumer<HeapImages> ready,
            ToLongFunction<HeapImages> call) {
        HeapImages asked = new HeapImages();
        HeapImages left = new HeapImages();
        ready.accept(asked);
        ready.accept(left);
        Due.fails(what, want, () -> call.applyAsLong(asked));
        Due.isTrue(what + " changes nothing that is seen", State.of(asked).equals(State.of(left)));
        // What is to be read can only be seen by a restore, which takes it.
        Due.is(what + " leaves what is to be read", asked.restore(0, 16), left.restore(0, 16));
        Due.isTrue(what + " leaves its bytes", State.of(asked).equals(State.of(left)));
    }

    static void noIndex(String what, Consumer<HeapImages> ready, ToLongFunction<HeapImages> call) {
        refuse(what, IndexOutOfBoundsException.class, ready, call);
    }

    static void noArgument(String what, Consumer<HeapImages> ready, ToLongFunction<HeapImages> call) {
        refuse(what, IllegalArgumentException.class, ready, call);
    }

    static void noState(String what, Consumer<HeapImages> ready, ToLongFunction<HeapImages> call) {
        refuse(what, IllegalStateException.class, ready, call);
    }

    static void noOperation(String what, Consumer<HeapImages> ready, ToLongFunction<HeapImages> call) {
        refuse(what, UnsupportedOperationException.class, ready, call);
    }
}
