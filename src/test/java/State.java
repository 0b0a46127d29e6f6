import java.util.ArrayList;
import java.util.List;

/** All that can be seen of an object without changing it. */
final class State {
    private State() {
    }

    static List<Integer> of(HeapImages x) {
        List<Integer> seen = new ArrayList<>();
        for (int heap = 0; heap < 2; heap++) {
            seen.addAll(ofHeap(x, heap));
        }
        seen.addAll(image(x));
        return seen;
    }

    static List<Integer> ofHeap(HeapImages x, int heap) {
        List<Integer> seen = new ArrayList<>();
        seen.add(x.told(heap, 0));
        seen.add(x.told(heap, 1));
        for (int r = 0; r < 4; r++) {
            seen.add(rootOf(x, heap, r));
        }
        seen.addAll(words(x, heap));
        return seen;
    }

    static List<Integer> words(HeapImages x, int heap) {
        List<Integer> seen = new ArrayList<>();
        for (int w = 0; w < 256; w++) {
            seen.add(x.word(heap, w));
        }
        return seen;
    }

    /** A root can only be seen by setting it, so it is set again. */
    static int rootOf(HeapImages x, int heap, int root) {
        int value = x.root(heap, root, 0);
        x.root(heap, root, value);
        return value;
    }

    static List<Integer> image(HeapImages x) {
        List<Integer> bytes = new ArrayList<>();
        for (int i = 0; i < 3000; i++) {
            try {
                bytes.add(x.byteAt(i));
            } catch (IndexOutOfBoundsException e) {
                return bytes;
            }
        }
        return bytes;
    }
}
