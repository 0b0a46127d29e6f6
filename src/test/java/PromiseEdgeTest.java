import java.util.Collections;
import java.util.List;

/** Promises 1 to 18: each sentence that names an edge, at it and just beyond it. */
public final class PromiseEdgeTest {
    private static final int CELLS = HeapImages.CELLS, DATA = HeapImages.DATA, LINK = HeapImages.LINK;
    private static final int LOW = Integer.MIN_VALUE, HIGH = Integer.MAX_VALUE;

    public static void main(String[] args) {
        newObject();
        madeValues();
        madeOverOldWords();
        makeRefusesKindsAndSlots();
        makeToWord255();
        setAnyWord();
        setAndAtFirstAndLastSlot();
        rootAnyWord();
        pokeMasks();
        wordsAnywhere();
        checkOfValid();
        theMostObjects();
        goneObjectsDoNotCount();
        moveCounts();
        moveToTheSameBase();
        sweepKeepsOnlyWhatIsComeTo();
        sweepInTheOrderInWhichItStood();
        sweepClearsBehindTheTop();
        dumpLeavesTheHeap();
        byteAtLast();
        feedBytes();
        feedTwoThousand();
        passAsManyAsThereAre();
        passTwoThousand();
        restoreAnswers();
        restoreTakesAll();
        restoreIntoAFullHeap();
        sameOfEmptyHeaps();
        sameEachDifference();
        toldEach();
        toldUpToTheFirstFault();
        clearAll();
        Due.end();
    }

    private static void newObject() {
        Due.sentence("1: Both heaps are empty, their bases 4096, their roots NONE; there is no image, and nothing"
            + " to be read");
        isAsAtFirst(new HeapImages());
    }

    private static void isAsAtFirst(HeapImages x) {
        for (int heap = 0; heap < 2; heap++) {
            int[] due = {4096, 0, 0, 0};
            for (int what = 0; what < 4; what++) {
                Due.is("told " + what, x.told(heap, what), due[what]);
            }
            Due.isTrue("words", State.words(x, heap).equals(Collections.nCopies(256, 0)));
            for (int r = 0; r < 4; r++) {
                Due.is("root " + r, State.rootOf(x, heap, r), HeapImages.NONE);
            }
        }
        Due.noIndex("byte 0", () -> x.byteAt(0));
        Due.noIndex("pass", () -> x.pass(0, 1));
        Due.is("nothing to be read", x.restore(0, 4), -1);
        Due.is("feed is the first", x.feed(0), 1);
    }

    private static void madeValues() {
        Due.sentence("2: its values NONE (a LINK's second one the number 0), its data 0: its address");
        HeapImages x = new HeapImages();
        Due.is("no slots", x.make(0, CELLS, 0), 4096);
        Due.is("forty", x.make(0, CELLS, 40), 4100);
        Due.is("a link", x.make(0, LINK, 2), 4264);
        Due.is("data", x.make(0, DATA, 40), 4276);
        for (int slot = 0; slot < 40; slot++) {
            Due.is("cell " + slot, x.at(0, 4100, slot), 0);
            Due.is("data " + slot, x.at(0, 4276, slot), 0);
        }
        Due.is("a link's first", x.at(0, 4264, 0), 0);
        Due.is("a link's second", x.at(0, 4264, 1), 1);
    }

    private static void madeOverOldWords() {
        Due.sentence("2: its values NONE, its data 0 (whatever the words were)");
        for (int kind = 1; kind <= 3; kind++) {
            HeapImages x = new HeapImages();
            for (int w = 0; w < 256; w++) {
                x.poke(0, w, -1);
            }
            int n = kind == LINK ? 2 : 40;
            int made = x.make(0, kind, n);
            for (int slot = 0; slot < n; slot++) {
                Due.is("slot " + slot, x.at(0, made, slot), kind == LINK && slot == 1 ? 1 : 0);
            }
            Due.is("the word behind", x.word(0, n + 1), -1);
        }
    }

    private static void makeRefusesKindsAndSlots() {
        Due.sentence("2: IllegalArgument: the kind, or n");
        HeapImages x = new HeapImages();
        for (int kind : new int[] {LOW, -1, 0, 4, HIGH}) {
            Due.noArgument("kind " + kind, () -> x.make(0, kind, 2));
        }
        for (int n : new int[] {LOW, -1, 41, HIGH}) {
            Due.noArgument("cells with " + n, () -> x.make(0, CELLS, n));
            Due.noArgument("data with " + n, () -> x.make(0, DATA, n));
        }
        for (int n : new int[] {LOW, -1, 0, 1, 3, HIGH}) {
            Due.noArgument("a link with " + n, () -> x.make(0, LINK, n));
        }
        Due.is("the first one all the same", x.make(0, CELLS, 40), 4096);
    }

    /** Makes DATA with 40 slots six times: 246 words. */
    private static HeapImages nearlyFull() {
        HeapImages x = new HeapImages();
        for (int i = 0; i < 6; i++) {
            x.make(0, DATA, 40);
        }
        return x;
    }

    private static void makeToWord255() {
        Due.sentence("2: UnsupportedOperation: it would go beyond word 255");
        HeapImages x = nearlyFull();
        for (int n : new int[] {10, 11, 40}) {
            Due.noOperation(n + " slots", () -> x.make(0, CELLS, n));
        }
        Due.is("top stays", x.told(0, 1), 246);
        Due.is("9 slots end at word 255", x.make(0, CELLS, 9), 4096 + 4 * 246);
        Due.noOperation("a head", () -> x.make(0, CELLS, 0));
        HeapImages y = nearlyFull();
        y.make(0, DATA, 6);
        Due.is("a link that ends at word 255", y.make(0, LINK, 2), 4096 + 4 * 253);
        HeapImages z = nearlyFull();
        z.make(0, DATA, 7);
        Due.noOperation("a link beyond", () -> z.make(0, LINK, 2));
        Due.is("a head at word 254", z.make(0, DATA, 0), 4096 + 4 * 254);
        Due.is("a head at word 255", z.make(0, DATA, 0), 4096 + 4 * 255);
        Due.noOperation("a head at word 256", () -> z.make(0, DATA, 0));
    }

    private static void setAnyWord() {
        Due.sentence("3: A slot of an object becomes a word, whatever it is: what it was");
        HeapImages x = new HeapImages();
        int[] made = {x.make(0, CELLS, 1), x.make(0, DATA, 1), x.make(0, LINK, 2)};
        for (int address : made) {
            int was = 0;
            for (int word : new int[] {LOW, -2, -1, 1, 2, 3, 4097, HIGH - 1, HIGH, 0}) {
                Due.is("set", x.set(0, address, 0, word), was);
                Due.is("at", x.at(0, address, 0), word);
                was = word;
            }
        }
        Due.is("a link's number", x.set(0, made[2], 1, 2), 1);
        Due.is("not valid, and yet set", x.set(0, made[2], 1, 5), 2);
    }

    private static void setAndAtFirstAndLastSlot() {
        Due.sentence("3, 4: A slot of an object");
        int[][] sorts = {{CELLS, 40}, {DATA, 40}, {LINK, 2}, {CELLS, 1}};
        for (int[] sort : sorts) {
            HeapImages x = new HeapImages();
            x.make(0, DATA, 3);
            int made = x.make(0, sort[0], sort[1]);
            x.make(0, DATA, 3);
            x.set(0, made, 0, 70);
            x.set(0, made, sort[1] - 1, 71);
            Due.is("first", x.word(0, 5), sort[1] == 1 ? 71 : 70);
            Due.is("last", x.word(0, 4 + sort[1]), 71);
            Due.noIndex("slot -1", () -> x.at(0, made, -1));
            Due.noIndex("slot n", () -> x.at(0, made, sort[1]));
            Due.noIndex("set of slot -1", () -> x.set(0, made, -1, 9));
            Due.noIndex("set of slot n", () -> x.set(0, made, sort[1], 9));
            Due.is("its head", x.word(0, 4), 64 * sort[0] + sort[1]);
            Due.is("the next head", x.word(0, 5 + sort[1]), 131);
        }
    }

    private static void rootAnyWord() {
        Due.sentence("5: A root becomes a word, whatever it is: what it was");
        HeapImages x = new HeapImages();
        for (int r : new int[] {0, 3}) {
            int was = 0;
            for (int word : new int[] {LOW, LOW + 1, -2, 2, 4096, HIGH - 1, HIGH, 0}) {
                Due.is("root " + r, x.root(0, r, word), was);
                was = word;
            }
        }
        Due.is("root 1 stays", x.root(0, 1, 0), 0);
        Due.is("the other heap's stays", x.root(1, 0, 0), 0);
    }

    private static void pokeMasks() {
        Due.sentence("6: A word of a heap changes by exclusive or with a mask: the word then");
        HeapImages x = new HeapImages();
        for (int w : new int[] {0, 255}) {
            int word = 0;
            for (int mask : new int[] {0, 1, -1, LOW, HIGH, -1, 0x55555555}) {
                word ^= mask;
                Due.is("poke of " + w, x.poke(1, w, mask), word);
                Due.is("word " + w, x.word(1, w), word);
            }
        }
        Due.is("word 1 stays", x.word(1, 1), 0);
        Due.is("word 254 stays", x.word(1, 254), 0);
        Due.is("the other heap's stays", x.word(0, 0), 0);
    }

    private static void wordsAnywhere() {
        Due.sentence("7: A word of a heap (below its top, at it, the last one)");
        HeapImages x = new HeapImages();
        x.make(0, LINK, 2);
        x.poke(0, 3, 5);
        x.poke(0, 255, 6);
        int[][] due = {{0, 194}, {2, 1}, {3, 5}, {4, 0}, {254, 0}, {255, 6}};
        for (int[] pair : due) {
            Due.is("word " + pair[0], x.word(0, pair[0]), pair[1]);
        }
    }

    private static void checkOfValid() {
        Due.sentence("8: 0 if the heap is valid");
        HeapImages x = new HeapImages();
        Due.is("an empty one", x.check(0), 0);
        HeapImages full = nearlyFull();
        full.make(0, CELLS, 9);
        Due.is("a full one", full.check(0), 0);
        Due.is("of the other heap", full.check(1), 0);
        full.root(1, 0, 2);
        Due.is("the other heap's fault is not its own", full.check(0), 0);
    }

    private static void theMostObjects() {
        Due.sentence("8, 9, 10, 11, 16, 17: with 256 objects, the most that there may be");
        HeapImages x = new HeapImages();
        for (int i = 0; i < 256; i++) {
            x.make(0, i % 2 == 0 ? DATA : CELLS, 0);
        }
        x.root(0, 0, 4096 + 4 * 255);
        Due.is("check", x.check(0), 0);
        Due.is("objects", x.told(0, 3), 256);
        Due.is("come to", x.told(0, 2), 1);
        Due.is("move", x.move(0, 1000000), 1);
        Due.is("root", State.rootOf(x, 0, 0), 1001020);
        Due.is("dump", x.dump(0), 12);
        Due.is("pass", x.pass(0, 12), 12);
        Due.is("restore", x.restore(1, 4), 1);
        Due.isTrue("same", x.same());
        Due.noIndex("no slot", () -> x.at(0, 1001020, 0));
        Due.is("sweep", x.sweep(0), 255);
        Due.is("what stays", x.word(0, 0), 64);
    }

    private static void goneObjectsDoNotCount() {
        Due.sentence("8, 9: objects from word 0 to the top (not those that stood behind it once)");
        HeapImages x = new HeapImages();
        x.root(0, 0, x.make(0, DATA, 1));
        x.make(0, CELLS, 1);
        Due.is("both", x.told(0, 3), 2);
        Due.is("sweep", x.sweep(0), 2);
        x.poke(0, 2, 65);
        x.poke(0, 3, 4096);
        Due.is("move", x.move(0, 8), 1);
        Due.is("the word behind stays", x.word(0, 3), 4096);
        Due.is("its value is no fault", x.check(0), 0);
        Due.noIndex("it is no object", () -> x.at(0, 16, 0));
        x.root(0, 1, 16);
        Due.is("a reference to it is none", x.check(0), 6001);
    }

    private static void moveCounts() {
        Due.sentence("9: how many references changed (roots, too)");
        HeapImages x = new HeapImages();
        Due.is("none in an empty heap", x.move(0, 4), 0);
        int cells = x.make(0, CELLS, 40);
        Due.is("none", x.move(0, 8), 0);
        cells += 4;
        for (int slot = 0; slot < 40; slot++) {
            x.set(0, cells, slot, cells);
        }
        Due.is("forty", x.move(0, 1000000), 40);
        for (int r = 0; r < 4; r++) {
            x.root(0, r, 1000000);
        }
        Due.is("44", x.move(0, 4), 44);
        Due.is("slot 39", x.at(0, 4, 39), 4);
        Due.is("root 3", x.root(0, 3, 5), 4);
        x.set(0, 4, 0, 0);
        x.set(0, 4, 1, -1);
        Due.is("not NONE, not numbers", x.move(0, 12), 41);
        // What is not come to is moved all the same; data is not.
        int link = x.make(0, LINK, 2);
        int data = x.make(0, DATA, 1);
        x.set(0, link, 0, link);
        x.set(0, data, 0, link);
        Due.is("one more", x.move(0, 4096), 42);
        Due.is("data stays", x.at(0, data + 4084, 0), link);
        Due.is("valid", x.check(0), 0);
    }

    private static void moveToTheSameBase() {
        Due.sentence("9: how many references changed (none do if the base is the one before)");
        HeapImages x = new HeapImages();
        x.root(0, 0, x.make(0, CELLS, 1));
        Due.is("to where it is", x.move(0, 4096), 0);
        Due.is("root", State.rootOf(x, 0, 0), 4096);
    }

    private static void sweepKeepsOnlyWhatIsComeTo() {
        Due.sentence("10: Only what can be come to stays: how many words are free by it");
        HeapImages x = new HeapImages();
        Due.is("of nothing", x.sweep(0), 0);
        HeapImages full = nearlyFull();
        int last = full.make(0, CELLS, 9);
        full.root(0, 3, last);
        Due.is("the last one stays", full.sweep(0), 246);
        Due.is("at word 0", full.word(0, 0), 73);
        Due.is("root", State.rootOf(full, 0, 3), 4096);
        Due.is("nothing more", full.sweep(0), 0);
        full.root(0, 3, 4097);
        Due.is("a number does not hold it", full.sweep(0), 10);
        Due.is("top", full.told(0, 1), 0);
        HeapImages all = nearlyFull();
        Due.is("none is come to", all.sweep(0), 246);
    }

    private static void sweepInTheOrderInWhichItStood() {
        Due.sentence("10: in the order in which it stood, one behind the other from word 0");
        HeapImages x = new HeapImages();
        x.make(0, CELLS, 0);
        int a = x.make(0, CELLS, 1);
        x.make(0, CELLS, 0);
        int b = x.make(0, CELLS, 2);
        x.root(0, 0, b);
        x.set(0, b, 1, a);
        x.set(0, a, 0, b);
        Due.is("two heads are free", x.sweep(0), 2);
        int[] due = {65, 4104, 66, 0, 4096, 0, 0};
        for (int w = 0; w < due.length; w++) {
            Due.is("word " + w, x.word(0, w), due[w]);
        }
    }

    private static void sweepClearsBehindTheTop() {
        Due.sentence("10: words behind the top are 0");
        HeapImages x = new HeapImages();
        x.root(0, 0, x.make(0, DATA, 1));
        x.set(0, 4096, 0, 77);
        for (int w = 2; w < 256; w++) {
            x.poke(0, w, -1);
        }
        Due.is("nothing is free by it", x.sweep(0), 0);
        Due.is("the last word that is used", x.word(0, 1), 77);
        Due.isTrue("the others", State.words(x, 0).subList(2, 256).equals(Collections.nCopies(254, 0)));
    }

    private static void dumpLeavesTheHeap() {
        Due.sentence("11: The IMAGE of a heap is made: how many bytes");
        HeapImages x = new HeapImages();
        Due.is("of nothing", x.dump(1), 10);
        HeapImages full = nearlyFull();
        for (int i = 0; i < 4; i++) {
            full.root(0, i, 4096 + 4 * 41 * i);
        }
        int link = full.make(0, LINK, 2);
        full.set(0, link, 1, LOW + 1);
        List<Integer> before = State.ofHeap(full, 0);
        Due.is("four data", full.dump(0), 3 + 5 + 4 * (2 + 160) + 2);
        Due.isTrue("the heap stays", before.equals(State.ofHeap(full, 0)));
        full.root(0, 0, link);
        Due.is("three data and a link", full.dump(0), 3 + 5 + 3 * (2 + 160) + 2 + 1 + 5 + 2);
    }

    private static void byteAtLast() {
        Due.sentence("12: A byte of the image that was made last");
        HeapImages x = new HeapImages();
        x.root(0, 0, 2 * 32 + 1);
        Due.is("size", x.dump(0), 11);
        Due.is("byte 0", x.byteAt(0), 72);
        Due.is("byte 10", x.byteAt(10), 3);
        for (int i : new int[] {-1, 11, LOW, HIGH}) {
            Due.noIndex("byte " + i, () -> x.byteAt(i));
        }
        Due.is("another one", x.dump(1), 10);
        Due.is("its root", x.byteAt(4), 0);
        Due.noIndex("byte 10 now", () -> x.byteAt(10));
    }

    private static void feedBytes() {
        Due.sentence("13: IllegalArgument: it is not 0 .. 255");
        HeapImages x = new HeapImages();
        Due.is("0", x.feed(0), 1);
        Due.is("255", x.feed(255), 2);
        for (int b : new int[] {-1, 256, LOW, HIGH, -256, 256 + 72}) {
            Due.noArgument("feed of " + b, () -> x.feed(b));
        }
        Due.is("the third", x.feed(128), 3);
    }

    private static void feedTwoThousand() {
        Due.sentence("13: UnsupportedOperation: there are 2000");
        HeapImages x = new HeapImages();
        for (int i = 1; i <= 2000; i++) {
            Due.is("feed", x.feed(72), i);
        }
        Due.noOperation("one more", () -> x.feed(72));
        Due.is("the second one is another", x.restore(0, 4), -2);
        Due.is("the first again", x.feed(72), 1);
    }

    private static void passAsManyAsThereAre() {
        Due.sentence("14: Bytes of the image from place i on, n or as many as there are: how many came");
        HeapImages x = new HeapImages();
        x.dump(0);
        int[][] calls = {{0, 0, 0}, {0, 1, 1}, {0, 9, 9}, {0, 10, 10}, {0, 11, 10}, {0, HIGH, 10}, {9, 0, 0}, {9, 1, 1},
            {9, 2, 1}, {9, HIGH, 1}, {5, 5, 5}, {5, 6, 5}, {5, 4, 4}};
        int all = 0;
        for (int[] call : calls) {
            Due.is("pass(" + call[0] + ", " + call[1] + ")", x.pass(call[0], call[1]), call[2]);
            all += call[2];
        }
        Due.is("all came", x.feed(0), all + 1);
        for (int i : new int[] {-1, 10, 11, LOW, HIGH}) {
            Due.noIndex("pass from " + i, () -> x.pass(i, 1));
        }
        Due.sentence("14: IllegalArgument: n is below 0");
        Due.noArgument("-1", () -> x.pass(0, -1));
        Due.noArgument("the lowest", () -> x.pass(9, LOW));
        Due.is("nothing came", x.feed(0), all + 2);
    }

    private static void passTwoThousand() {
        Due.sentence("14: UnsupportedOperation: above 2000 (nothing comes then)");
        HeapImages x = new HeapImages();
        x.dump(0);
        for (int i = 0; i < 200; i++) {
            Due.is("pass", x.pass(0, 10), 10);
        }
        Due.noOperation("one more", () -> x.pass(0, 1));
        Due.is("none more", x.pass(0, 0), 0);
        x.restore(0, 4);
        for (int i = 0; i < 1991; i++) {
            x.feed(0);
        }
        Due.noOperation("ten behind 1991", () -> x.pass(0, 10));
        Due.noOperation("more than there are behind 1991", () -> x.pass(0, HIGH));
        Due.is("nothing came", x.feed(0), 1992);
        Due.is("eight behind 1992, of more", x.pass(2, HIGH), 8);
        Due.noOperation("full", () -> x.feed(0));
    }

    private static void restoreAnswers() {
        Due.sentence("15: how many objects; -1 less the place where it ends, the heap stays then");
        HeapImages x = new HeapImages();
        x.root(0, 0, x.make(0, CELLS, 1));
        List<Integer> before = State.ofHeap(x, 0);
        Due.is("place 0", x.restore(0, 8), -1);
        Due.isTrue("the heap stays", before.equals(State.ofHeap(x, 0)));
        x.dump(0);
        x.pass(0, 2000);
        x.feed(0);
        Due.is("place 13", x.restore(0, 8), -14);
        Due.isTrue("the heap stays still", before.equals(State.ofHeap(x, 0)));
        x.dump(1);
        x.pass(0, 2000);
        Due.is("no objects", x.restore(0, 8), 0);
        Due.is("its base", x.told(0, 0), 8);
        Due.is("its root", State.rootOf(x, 0, 0), 0);
        Due.is("its top", x.told(0, 1), 0);
    }

    private static void restoreTakesAll() {
        Due.sentence("15: All that is to be read goes");
        HeapImages x = new HeapImages();
        x.dump(0);
        x.pass(0, 10);
        Due.is("an image", x.restore(0, 4), 0);
        Due.is("it is gone", x.restore(0, 4), -1);
        x.pass(0, 10);
        x.pass(0, 10);
        Due.is("two images", x.restore(0, 4), -11);
        Due.is("both are gone", x.restore(0, 4), -1);
        x.pass(0, 4);
        Due.is("a part", x.restore(0, 4), -5);
        Due.is("the rest does not go with it", x.pass(4, 10), 6);
        Due.is("so it is refused", x.restore(0, 4), -1);
    }

    private static void restoreIntoAFullHeap() {
        Due.sentence("15: RESTORING what is to be read into a heap (a full one, that is not valid)");
        HeapImages x = nearlyFull();
        x.make(0, CELLS, 9);
        x.poke(0, 0, -1);
        x.root(0, 2, 2);
        x.root(1, 0, x.make(1, DATA, 1));
        x.dump(1);
        x.pass(0, 2000);
        Due.is("one object", x.restore(0, 1000000), 1);
        Due.is("valid", x.check(0), 0);
        Due.is("top", x.told(0, 1), 2);
        Due.is("root 0", State.rootOf(x, 0, 0), 1000000);
        Due.is("root 2", State.rootOf(x, 0, 2), 0);
        Due.isTrue("words behind the top", State.words(x, 0).subList(2, 256).equals(Collections.nCopies(254, 0)));
        Due.isTrue("same", x.same());
    }

    private static void sameOfEmptyHeaps() {
        Due.sentence("16: Whether both heaps have the same, as it can be come to");
        HeapImages x = new HeapImages();
        Due.isTrue("nothing", x.same());
        x.move(1, 4);
        x.make(1, DATA, 40);
        x.poke(0, 255, -1);
        Due.isTrue("nothing that can be come to", x.same());
        for (int r = 0; r < 4; r++) {
            x.root(0, r, 1);
            Due.isFalse("NONE is not the number 0", x.same());
            x.root(0, r, 0);
        }
    }

    private static void sameEachDifference() {
        Due.sentence("16: the same roots, kinds, numbers, data, and references to the same objects by the order");
        int[][] sorts = {{CELLS, 40, 39, 3}, {DATA, 40, 39, 2}, {LINK, 2, 1, LOW + 1}, {LINK, 2, 0, 4096}};
        for (int[] sort : sorts) {
            HeapImages x = new HeapImages();
            for (int heap = 0; heap < 2; heap++) {
                x.root(heap, 3, x.make(heap, sort[0], sort[1]));
            }
            Due.isTrue("alike", x.same());
            x.set(0, 4096, sort[2], sort[3]);
            Due.isFalse("the last slot", x.same());
            x.set(1, 4096, sort[2], sort[3]);
            Due.isTrue("both", x.same());
        }
        HeapImages x = new HeapImages();
        x.root(0, 0, x.make(0, CELLS, 0));
        x.root(1, 0, x.make(1, DATA, 0));
        Due.isFalse("kinds without slots", x.same());
        x.root(1, 0, x.make(1, CELLS, 0));
        Due.isTrue("elsewhere", x.same());
        x.root(1, 1, State.rootOf(x, 1, 0));
        x.root(0, 1, x.make(0, CELLS, 0));
        Due.isFalse("one object, two objects", x.same());
    }

    private static void toldEach() {
        Due.sentence("17: its base (what = 0), top (1), how many objects can be come to (2), how many there are (3)");
        HeapImages x = nearlyFull();
        x.move(0, 1000000);
        x.root(0, 3, 1000000);
        int[] due = {1000000, 246, 1, 6};
        for (int what = 0; what < 4; what++) {
            Due.is("told " + what, x.told(0, what), due[what]);
        }
        for (int what : new int[] {-1, 4, LOW, HIGH}) {
            Due.noArgument("told " + what, () -> x.told(0, what));
        }
        for (int i = 0; i < 10; i++) {
            x.make(0, CELLS, 0);
        }
        Due.is("a full heap's top", x.told(0, 1), 256);
        Due.is("a full heap's objects", x.told(0, 3), 16);
        HeapImages most = new HeapImages();
        for (int i = 0; i < 256; i++) {
            most.make(0, DATA, 0);
        }
        Due.is("the most objects", most.told(0, 3), 256);
    }

    private static void toldUpToTheFirstFault() {
        Due.sentence("17: as far as they are told above (3). IllegalState: for 2");
        HeapImages x = new HeapImages();
        for (int i = 0; i < 3; i++) {
            x.make(0, CELLS, 1);
        }
        x.poke(0, 4, 65 ^ 66);
        Due.is("the last goes beyond", x.told(0, 3), 2);
        x.poke(0, 2, 65);
        Due.is("the second has no head", x.told(0, 3), 1);
        x.poke(0, 0, 65);
        Due.is("nor has the first", x.told(0, 3), 0);
        Due.is("top", x.told(0, 1), 6);
        Due.is("base", x.told(0, 0), 4096);
        Due.noState("what can be come to", () -> x.told(0, 2));
        HeapImages y = new HeapImages();
        y.make(0, LINK, 2);
        y.set(0, 4096, 1, 0);
        Due.noState("a value", () -> y.told(0, 2));
        Due.is("a value does not hinder", y.told(0, 3), 1);
        Due.is("the other heap", y.told(1, 2), 0);
    }

    private static void clearAll() {
        Due.sentence("18: Both heaps are as at first, there is no image, nothing to be read");
        HeapImages x = nearlyFull();
        x.clear();
        isAsAtFirst(x);
        HeapImages y = nearlyFull();
        y.make(0, CELLS, 9);
        y.make(1, LINK, 2);
        for (int heap = 0; heap < 2; heap++) {
            y.dump(heap);
            y.pass(0, 2000);
            y.move(heap, 4);
            for (int w = 0; w < 256; w++) {
                y.poke(heap, w, -1);
            }
            for (int r = 0; r < 4; r++) {
                y.root(heap, r, 2);
            }
        }
        y.clear();
        isAsAtFirst(y);
        y.clear();
        isAsAtFirst(y);
        HeapImages z = new HeapImages();
        z.clear();
        isAsAtFirst(z);
        z.clear();
        Due.is("the first byte to be read", z.feed(0), 1);
    }
}
