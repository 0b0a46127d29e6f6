import java.util.List;
import java.util.function.Consumer;
import java.util.function.ToLongFunction;

/** The paragraph on exceptions: what each is thrown for, which one of several, and that nothing changes. */
public final class ThrowsEdgeTest {
    private static final int CELLS = HeapImages.CELLS, DATA = HeapImages.DATA, LINK = HeapImages.LINK;
    private static final int[] NO_HEAPS = {-1, 2, Integer.MIN_VALUE, Integer.MAX_VALUE};

    public static void main(String[] args) {
        noSuchHeap();
        noSuchObject();
        noSuchObjectBehindAFault();
        noSuchSlot();
        noSuchWord();
        noSuchRoot();
        noSuchByte();
        noneThatIsTold();
        notValid();
        moreThanThereMayBe();
        indexBeforeTheOthers();
        argumentBeforeTheOthers();
        Due.end();
    }

    /** Both heaps have something, there is an image, and a part of it is to be read, which a restore tells. */
    private static void ready(HeapImages x) {
        for (int heap = 0; heap < 2; heap++) {
            int cells = x.make(heap, CELLS, 2);
            int link = x.make(heap, LINK, 2);
            x.make(heap, DATA, 1);
            x.root(heap, heap, link);
            x.set(heap, link, 0, cells);
            x.poke(heap, 200, 99);
        }
        x.move(1, 400);
        x.dump(0);
        x.pass(0, 2000);
    }

    private static void broken(HeapImages x) {
        ready(x);
        x.root(0, 2, 2);
    }

    /** As ready, with another word poked into heap 0. */
    private static Consumer<HeapImages> poked(int word, int mask) {
        return x -> {
            ready(x);
            x.poke(0, word, mask);
        };
    }

    private static void noSuchHeap() {
        Due.sentence("IndexOutOfBounds: there is no such heap");
        for (int h : NO_HEAPS) {
            noIndex("make", x -> x.make(h, CELLS, 1));
            noIndex("set", x -> x.set(h, 4096, 0, 1));
            noIndex("at", x -> x.at(h, 4096, 0));
            noIndex("root", x -> x.root(h, 0, 1));
            noIndex("poke", x -> x.poke(h, 0, 1));
            noIndex("word", x -> x.word(h, 0));
            noIndex("check", x -> x.check(h));
            noIndex("move", x -> x.move(h, 8));
            noIndex("sweep", x -> x.sweep(h));
            noIndex("dump", x -> x.dump(h));
            noIndex("restore", x -> x.restore(h, 8));
            for (int what = 0; what < 4; what++) {
                int w = what;
                noIndex("told " + w, x -> x.told(h, w));
            }
        }
    }

    private static void noIndex(String what, ToLongFunction<HeapImages> call) {
        Both.noIndex(what, ThrowsEdgeTest::ready, call);
    }

    private static void noSuchObject() {
        Due.sentence("there is no such object (at an address)");
        for (int address : new int[] {0, 4092, 4097, 4098, 4099, 4100, 4104, 4112, 4128, 4896, 5116, 5120, -4096,
            4096 + (1 << 31), Integer.MIN_VALUE, Integer.MAX_VALUE, 400}) {
            noIndex("at " + address, x -> x.at(0, address, 0));
            noIndex("set at " + address, x -> x.set(0, address, 0, 5));
        }
        for (int address : new int[] {396, 404, 432, 4096}) {
            noIndex("at " + address + " of the moved heap", x -> x.at(1, address, 0));
            noIndex("set at " + address + " of the moved heap", x -> x.set(1, address, 0, 5));
        }
    }

    private static void noSuchObjectBehindAFault() {
        Due.sentence("in a heap up to its first head that is none, or goes beyond");
        // Heads stand at the words 0, 3 and 6, the top is 8.
        Consumer<HeapImages> noHead = poked(3, 1);
        Both.noIndex("at a head that is none", noHead, x -> x.at(0, 4108, 0));
        Both.noIndex("behind a head that is none", noHead, x -> x.at(0, 4120, 0));
        Both.noIndex("set behind a head that is none", noHead, x -> x.set(0, 4120, 0, 1));
        Consumer<HeapImages> beyond = poked(6, 129 ^ 130);
        Both.noIndex("at one that goes beyond", beyond, x -> x.at(0, 4120, 0));
        Both.noIndex("set at one that goes beyond", beyond, x -> x.set(0, 4120, 0, 1));
        Consumer<HeapImages> firstBeyond = poked(0, 66 ^ 72);
        Both.noIndex("behind one that goes beyond", firstBeyond, x -> x.at(0, 4108, 0));
        HeapImages x = new HeapImages();
        noHead.accept(x);
        Due.is("before a head that is none", x.at(0, 4096, 1), 0);
        x = new HeapImages();
        beyond.accept(x);
        Due.is("before one that goes beyond", x.at(0, 4108, 0), 4096);
        x = new HeapImages();
        poked(0, 66 ^ 71).accept(x);
        Due.is("one that goes to the top", x.at(0, 4096, 6), 0);
    }

    private static void noSuchSlot() {
        Due.sentence("there is no such slot");
        for (int slot : new int[] {-1, 2, 40, Integer.MIN_VALUE, Integer.MAX_VALUE}) {
            for (int address : new int[] {4096, 4108}) {
                noIndex("at slot " + slot, x -> x.at(0, address, slot));
                noIndex("set of slot " + slot, x -> x.set(0, address, slot, 5));
            }
        }
        noIndex("slot 1 of one", x -> x.at(0, 4120, 1));
        noIndex("set of slot 1 of one", x -> x.set(0, 4120, 1, 5));
        Consumer<HeapImages> none = x -> x.make(0, CELLS, 0);
        Both.noIndex("slot 0 of none", none, x -> x.at(0, 4096, 0));
        Both.noIndex("set of slot 0 of none", none, x -> x.set(0, 4096, 0, 5));
    }

    private static void noSuchWord() {
        Due.sentence("there is no such word");
        for (int word : new int[] {-1, 256, Integer.MIN_VALUE, Integer.MAX_VALUE}) {
            noIndex("word " + word, x -> x.word(0, word));
            noIndex("poke of word " + word, x -> x.poke(0, word, -1));
        }
    }

    private static void noSuchRoot() {
        Due.sentence("there is no such root");
        for (int root : new int[] {-1, 4, Integer.MIN_VALUE, Integer.MAX_VALUE}) {
            noIndex("root " + root, x -> x.root(0, root, 1));
        }
    }

    private static void noSuchByte() {
        Due.sentence("there is no such byte");
        HeapImages image = new HeapImages();
        ready(image);
        int size = State.image(image).size();
        for (int i : new int[] {-1, size, size + 1, 2000, Integer.MIN_VALUE, Integer.MAX_VALUE}) {
            noIndex("byteAt " + i, x -> x.byteAt(i));
            noIndex("pass from " + i, x -> x.pass(i, 1));
            noIndex("pass of none from " + i, x -> x.pass(i, 0));
        }
        Consumer<HeapImages> noImage = x -> x.feed(72);
        Both.noIndex("byteAt of no image", noImage, x -> x.byteAt(0));
        Both.noIndex("pass of no image", noImage, x -> x.pass(0, 0));
    }

    private static void noArgument(String what, ToLongFunction<HeapImages> call) {
        Both.noArgument(what, ThrowsEdgeTest::ready, call);
    }

    private static void noneThatIsTold() {
        Due.sentence("IllegalArgument: another number is none that is told");
        for (int kind : new int[] {-1, 0, 4}) {
            noArgument("kind " + kind, x -> x.make(0, kind, 2));
        }
        for (int n : new int[] {-1, 41}) {
            noArgument("cells with " + n, x -> x.make(0, CELLS, n));
            noArgument("data with " + n, x -> x.make(0, DATA, n));
        }
        for (int n : new int[] {1, 3}) {
            noArgument("a link with " + n, x -> x.make(0, LINK, n));
        }
        for (int base : new int[] {0, 3, 6, 4097, 1000002, 1000004, Integer.MIN_VALUE, Integer.MAX_VALUE}) {
            noArgument("move to " + base, x -> x.move(0, base));
            noArgument("restore at " + base, x -> x.restore(0, base));
        }
        noArgument("feed of -1", x -> x.feed(-1));
        noArgument("feed of 256", x -> x.feed(256));
        noArgument("pass of -1", x -> x.pass(0, -1));
        noArgument("told -1", x -> x.told(0, -1));
        noArgument("told 4", x -> x.told(0, 4));
    }

    private static void notValid() {
        Due.sentence("IllegalState: a heap is not valid");
        // Each fault: a head, one that goes beyond, a value, a link's reference, its number, a root.
        List<Consumer<HeapImages>> faults = List.of(poked(3, 1), poked(6, 3), poked(1, 2), poked(4, 4096 ^ 1),
            poked(5, 1), ThrowsEdgeTest::broken);
        for (Consumer<HeapImages> fault : faults) {
            Both.noState("move", fault, x -> x.move(0, 8));
            Both.noState("move to where it is", fault, x -> x.move(0, 4096));
            Both.noState("sweep", fault, x -> x.sweep(0));
            Both.noState("dump", fault, x -> x.dump(0));
            Both.noState("told 2", fault, x -> x.told(0, 2));
            Both.noState("same", fault, x -> x.same() ? 1 : 0);
        }
        Both.noState("same with heap 1", x -> x.root(1, 3, 2), x -> x.same() ? 1 : 0);
        HeapImages x = new HeapImages();
        broken(x);
        Due.is("the other heap's move", x.move(1, 8), 2);
        Due.is("the other heap's sweep", x.sweep(1), 2);
        Due.is("the other heap's objects", x.told(1, 2), 2);
    }

    private static void filled(HeapImages x) {
        for (int i = 0; i < 6; i++) {
            x.make(0, DATA, 40);
        }
        x.make(0, CELLS, 8);
        x.dump(1);
        for (int i = 0; i < 200; i++) {
            x.pass(0, 10);
        }
    }

    private static void moreThanThereMayBe() {
        Due.sentence("UnsupportedOperation: there would be more than there may be");
        Both.noOperation("make", ThrowsEdgeTest::filled, x -> x.make(0, CELLS, 1));
        Both.noOperation("make of a link", ThrowsEdgeTest::filled, x -> x.make(0, LINK, 2));
        Both.noOperation("feed", ThrowsEdgeTest::filled, x -> x.feed(0));
        Both.noOperation("pass", ThrowsEdgeTest::filled, x -> x.pass(9, 1));
        HeapImages x = new HeapImages();
        filled(x);
        Due.is("the last word", x.make(0, CELLS, 0), 4096 + 4 * 255);
        Due.is("the other heap", x.make(1, DATA, 40), 4096);
        Due.is("no bytes", x.pass(9, 0), 0);
    }

    private static void indexBeforeTheOthers() {
        Due.sentence("Of several that a call names, the first one (IndexOutOfBounds)");
        Both.noIndex("make", ThrowsEdgeTest::filled, x -> x.make(2, 4, 41));
        Both.noIndex("move", ThrowsEdgeTest::broken, x -> x.move(-1, 3));
        Both.noIndex("pass, n", ThrowsEdgeTest::filled, x -> x.pass(10, -1));
        Both.noIndex("pass, more than there may be", ThrowsEdgeTest::filled, x -> x.pass(10, 1));
        Both.noIndex("restore", ThrowsEdgeTest::broken, x -> x.restore(2, 5));
        Both.noIndex("told", ThrowsEdgeTest::broken, x -> x.told(2, 4));
        Both.noIndex("told 2", ThrowsEdgeTest::broken, x -> x.told(-1, 2));
    }

    private static void argumentBeforeTheOthers() {
        Due.sentence("Of several that a call names, the first one (IllegalArgument)");
        Both.noArgument("make, the kind", ThrowsEdgeTest::filled, x -> x.make(0, 4, 40));
        Both.noArgument("make, n", ThrowsEdgeTest::filled, x -> x.make(0, CELLS, 41));
        Both.noArgument("make, a link's n", ThrowsEdgeTest::filled, x -> x.make(0, LINK, 3));
        Both.noArgument("move", ThrowsEdgeTest::broken, x -> x.move(0, 3));
        Both.noArgument("feed", ThrowsEdgeTest::filled, x -> x.feed(256));
        Both.noArgument("pass", ThrowsEdgeTest::filled, x -> x.pass(0, -1));
        Both.noArgument("told", ThrowsEdgeTest::broken, x -> x.told(0, 4));
    }
}
