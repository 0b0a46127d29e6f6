/** Promise 16 (same). */
public final class SameTest {
    public static void main(String[] args) {
        otherPlaces();
        roots();
        differences();
        sharing();
        data();
        refuses();
        Due.end();
    }

    private static void otherPlaces() {
        HeapImages x = new HeapImages();
        x.make(1, HeapImages.DATA, 7);
        x.move(1, 88);
        int a0 = x.make(0, HeapImages.CELLS, 2);
        int b0 = x.make(0, HeapImages.LINK, 2);
        int b1 = x.make(1, HeapImages.LINK, 2);
        x.make(1, HeapImages.CELLS, 1);
        int a1 = x.make(1, HeapImages.CELLS, 2);
        Due.isTrue("what cannot be come to does not count", x.same());
        x.root(0, 1, a0);
        Due.isFalse("a root more", x.same());
        x.root(1, 1, a1);
        Due.isTrue("both roots", x.same());
        x.set(0, a0, 1, b0);
        x.set(1, a1, 1, b1);
        x.set(0, b0, 0, a0);
        x.set(1, b1, 0, a1);
        Due.isTrue("a ring", x.same());
        x.poke(0, 250, 5);
        Due.isTrue("words behind the top do not count", x.same());
    }

    private static void roots() {
        HeapImages x = new HeapImages();
        int a = x.make(0, HeapImages.CELLS, 0);
        int b = x.make(1, HeapImages.CELLS, 0);
        for (int r = 0; r < 4; r++) {
            x.root(0, r, 7);
            Due.isFalse("a number, NONE", x.same());
            x.root(1, r, 9);
            Due.isFalse("another number", x.same());
            x.root(1, r, 7);
            Due.isTrue("the same number", x.same());
            x.root(0, r, a);
            Due.isFalse("a reference, a number", x.same());
            x.root(1, r, b);
            Due.isTrue("the same reference", x.same());
        }
        x.root(0, 0, 0);
        x.root(0, 1, 0);
        x.root(1, 2, 0);
        x.root(1, 3, 0);
        Due.isFalse("in other roots", x.same());
    }

    private static HeapImages pair(int kind, int n) {
        HeapImages x = new HeapImages();
        x.root(0, 0, x.make(0, kind, n));
        x.root(1, 0, x.make(1, kind, n));
        return x;
    }

    private static void differences() {
        HeapImages x = pair(HeapImages.CELLS, 2);
        Due.isTrue("cells", x.same());
        x.root(1, 0, x.make(1, HeapImages.CELLS, 3));
        Due.isFalse("another n", x.same());
        x.root(1, 0, x.make(1, HeapImages.DATA, 2));
        Due.isFalse("another kind", x.same());
        x = pair(HeapImages.CELLS, 2);
        x.set(0, 4096, 1, 3);
        Due.isFalse("a number, NONE", x.same());
        x.set(1, 4096, 1, -3);
        Due.isFalse("another number", x.same());
        x.set(1, 4096, 1, 3);
        Due.isTrue("the same number", x.same());
        x.set(1, 4096, 0, x.make(1, HeapImages.DATA, 0));
        Due.isFalse("an object more", x.same());
        x.set(0, 4096, 0, 4096);
        Due.isFalse("another object", x.same());
        x.set(0, 4096, 0, x.make(0, HeapImages.DATA, 0));
        Due.isTrue("an object each", x.same());
        x = pair(HeapImages.LINK, 2);
        x.set(0, 4096, 1, 5);
        Due.isFalse("a link's number", x.same());
        x.set(1, 4096, 1, 5);
        x.set(1, 4096, 0, 4096);
        Due.isFalse("a link's reference", x.same());
    }

    private static void sharing() {
        HeapImages x = pair(HeapImages.CELLS, 3);
        int a = x.make(0, HeapImages.CELLS, 0);
        int b = x.make(0, HeapImages.CELLS, 0);
        int c = x.make(1, HeapImages.CELLS, 0);
        int d = x.make(1, HeapImages.CELLS, 0);
        x.set(0, 4096, 0, a);
        x.set(0, 4096, 1, b);
        x.set(0, 4096, 2, a);
        x.set(1, 4096, 0, d);
        x.set(1, 4096, 1, c);
        x.set(1, 4096, 2, c);
        Due.isFalse("references to other ones", x.same());
        x.set(1, 4096, 2, d);
        Due.isTrue("references to the same ones", x.same());
    }

    private static void data() {
        HeapImages x = pair(HeapImages.DATA, 2);
        x.set(0, 4096, 1, 4096);
        x.set(1, 4096, 1, 4096);
        Due.isTrue("the same data", x.same());
        x.move(1, 8);
        Due.isTrue("data that looks like a reference stays", x.same());
        x.set(1, 8, 1, 8);
        Due.isFalse("other data, though both are addresses", x.same());
        x.set(0, 4096, 1, 2);
        x.set(1, 8, 1, 4);
        Due.isFalse("even data that is neither NONE nor a reference", x.same());
        x.set(1, 8, 1, 2);
        Due.isTrue("the same again", x.same());
        x.set(1, 8, 0, 1 << 31);
        Due.isFalse("the highest bit", x.same());
    }

    private static void refuses() {
        for (int heap = 0; heap < 2; heap++) {
            HeapImages x = new HeapImages();
            x.root(heap, 3, 2);
            Due.noState("heap " + heap + " not valid", () -> x.same() ? 1 : 0);
            x.root(heap, 3, 0);
            Due.isTrue("valid again", x.same());
            int cells = x.make(heap, HeapImages.CELLS, 1);
            x.set(heap, cells, 0, 6);
            Due.noState("a fault in what cannot be come to", () -> x.same() ? 1 : 0);
        }
    }
}
