import java.util.Collections;

/** Promises 1 (a new object), 17 (told) and 18 (clear). */
public final class StateTest {
    public static void main(String[] args) {
        newObject();
        heapsAreApart();
        told();
        toldRefuses();
        clear();
        constants();
        Due.end();
    }

    private static void constants() {
        Due.is("NONE", HeapImages.NONE, 0);
        Due.is("CELLS", HeapImages.CELLS, 1);
        Due.is("DATA", HeapImages.DATA, 2);
        Due.is("LINK", HeapImages.LINK, 3);
    }

    private static void newObject() {
        isAsAtFirst("new", new HeapImages());
    }

    private static void isAsAtFirst(String when, HeapImages x) {
        for (int heap = 0; heap < 2; heap++) {
            int h = heap;
            Due.is(when + " base", x.told(h, 0), 4096);
            Due.is(when + " top", x.told(h, 1), 0);
            Due.is(when + " reached", x.told(h, 2), 0);
            Due.is(when + " objects", x.told(h, 3), 0);
            Due.is(when + " check", x.check(h), 0);
            for (int r = 0; r < 4; r++) {
                Due.is(when + " root", State.rootOf(x, h, r), 0);
            }
            Due.isTrue(when + " words", State.words(x, h).equals(Collections.nCopies(256, 0)));
            Due.noIndex(when + " at", () -> x.at(h, 4096, 0));
        }
        Due.isTrue(when + " same", x.same());
        Due.noIndex(when + " byteAt(0)", () -> x.byteAt(0));
        Due.noIndex(when + " pass(0, 0)", () -> x.pass(0, 0));
        Due.is(when + " restore of nothing", x.restore(0, 8), -1);
        Due.is(when + " base after a refusal", x.told(0, 0), 4096);
        Due.is(when + " first feed", x.feed(72), 1);
        Due.is(when + " restore of one byte", x.restore(1, 8), -2);
    }

    private static void heapsAreApart() {
        HeapImages x = new HeapImages();
        x.make(1, HeapImages.DATA, 3);
        x.root(1, 2, 5);
        x.poke(1, 100, 9);
        x.move(1, 64);
        Due.is("other heap's base", x.told(0, 0), 4096);
        Due.is("other heap's top", x.told(0, 1), 0);
        Due.is("other heap's root", State.rootOf(x, 0, 2), 0);
        Due.is("other heap's word", x.word(0, 100), 0);
        HeapImages y = new HeapImages();
        Due.is("other object's top", y.told(1, 1), 0);
        Due.is("other object's base", y.told(1, 0), 4096);
    }

    private static void told() {
        HeapImages x = new HeapImages();
        int cells = x.make(0, HeapImages.CELLS, 2);
        int data = x.make(0, HeapImages.DATA, 1);
        int link = x.make(0, HeapImages.LINK, 2);
        Due.is("top", x.told(0, 1), 8);
        Due.is("none reached", x.told(0, 2), 0);
        Due.is("objects", x.told(0, 3), 3);
        x.root(0, 3, link);
        x.root(0, 0, link);
        Due.is("one reached by two roots", x.told(0, 2), 1);
        x.set(0, link, 0, cells);
        x.set(0, cells, 1, link);
        Due.is("a ring", x.told(0, 2), 2);
        x.set(0, data, 0, cells);
        Due.is("data that looks like a reference", x.told(0, 2), 2);
        x.set(0, cells, 0, data);
        Due.is("all", x.told(0, 2), 3);
        x.move(0, 1000000);
        Due.is("base", x.told(0, 0), 1000000);
        x.poke(0, 5, 1);
        Due.is("objects before a head that is none", x.told(0, 3), 2);
        x.poke(0, 5, 1);
        x.poke(0, 3, 8);
        Due.is("objects before one that goes beyond", x.told(0, 3), 1);
        Due.is("top all the same", x.told(0, 1), 8);
    }

    private static void toldRefuses() {
        HeapImages x = new HeapImages();
        for (int heap : new int[] {-1, 2, Integer.MIN_VALUE, Integer.MAX_VALUE}) {
            Due.noIndex("told(" + heap + ", 0)", () -> x.told(heap, 0));
            Due.noIndex("told(" + heap + ", 4)", () -> x.told(heap, 4));
        }
        for (int what : new int[] {-1, 4, Integer.MIN_VALUE, Integer.MAX_VALUE}) {
            Due.noArgument("told(0, " + what + ")", () -> x.told(0, what));
        }
        x.root(0, 0, 2);
        Due.noState("told(0, 2) of no valid heap", () -> x.told(0, 2));
        Due.noArgument("told(0, 4) of no valid heap", () -> x.told(0, 4));
        Due.is("told(0, 0) of no valid heap", x.told(0, 0), 4096);
        Due.is("told(0, 1) of no valid heap", x.told(0, 1), 0);
        Due.is("told(0, 3) of no valid heap", x.told(0, 3), 0);
        Due.is("told(1, 2) of the other heap", x.told(1, 2), 0);
    }

    private static void clear() {
        HeapImages x = new HeapImages();
        for (int heap = 0; heap < 2; heap++) {
            int cells = x.make(heap, HeapImages.CELLS, 5);
            x.root(heap, 0, cells);
            x.root(heap, 1, 7);
            x.root(heap, 2, 7);
            x.root(heap, 3, 7);
            x.dump(heap);
            x.move(heap, 400);
            x.poke(heap, 255, -1);
            x.poke(heap, 0, -1);
        }
        x.pass(0, 2000);
        x.clear();
        isAsAtFirst("cleared", x);
        x.clear();
        Due.is("make after clear", x.make(0, HeapImages.CELLS, 1), 4096);
    }
}
