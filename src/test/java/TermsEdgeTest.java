import java.util.List;

/** The document's terms but RESTORING: each sentence that names an edge, at it and just beyond it. */
public final class TermsEdgeTest {
    private static final int CELLS = HeapImages.CELLS, DATA = HeapImages.DATA, LINK = HeapImages.LINK;

    public static void main(String[] args) {
        bases();
        words();
        tops();
        roots();
        addresses();
        headsOfCells();
        headsOfData();
        headsOfLinks();
        headsOfNoKind();
        numbers();
        references();
        linkValues();
        objectsStandToTheTop();
        faultOfHeads();
        faultBeyondTheTop();
        faultOfValues();
        faultOfLinkReferences();
        faultOfLinkNumbers();
        faultOfRoots();
        firstFault();
        orderOfRoots();
        orderOfValues();
        eachOnce();
        imageOfNothing();
        imageOfTheMostObjects();
        imageOfReferences();
        imageOfNumbers();
        imageOfData();
        imageSum();
        Due.end();
    }

    private static void bases() {
        Due.sentence("a BASE, a number from 4 to 1000000 that 4 divides (at first 4096)");
        HeapImages x = new HeapImages();
        for (int heap = 0; heap < 2; heap++) {
            int h = heap;
            Due.is("at first", x.told(h, 0), 4096);
            for (int base : new int[] {4, 8, 999996, 1000000}) {
                Due.is("move to " + base, x.move(h, base), 0);
                Due.is("base " + base, x.told(h, 0), base);
            }
            for (int base : new int[] {3, 0, -4, 5, 6, 7, 999997, 999998, 999999, 1000001, 1000004}) {
                Due.noArgument("move to " + base, () -> x.move(h, base));
                Due.noArgument("restore at " + base, () -> x.restore(h, base));
                Due.is("base behind " + base, x.told(h, 0), 1000000);
            }
        }
    }

    private static void words() {
        Due.sentence("256 WORDS, ints, at first 0");
        HeapImages x = new HeapImages();
        for (int heap = 0; heap < 2; heap++) {
            for (int w = 0; w < 256; w++) {
                Due.is("word " + w + " at first", x.word(heap, w), 0);
            }
        }
        for (int w : new int[] {0, 255}) {
            Due.is("lowest", x.poke(0, w, Integer.MIN_VALUE), Integer.MIN_VALUE);
            Due.is("all bits turned", x.poke(0, w, -1), Integer.MAX_VALUE);
            Due.is("highest", x.word(0, w), Integer.MAX_VALUE);
        }
        for (int w : new int[] {-1, 256, -256, Integer.MIN_VALUE, Integer.MAX_VALUE}) {
            Due.noIndex("word " + w, () -> x.word(0, w));
            Due.noIndex("poke of word " + w, () -> x.poke(0, w, 1));
        }
    }

    private static void tops() {
        Due.sentence("a TOP, how many of them are used (at first 0)");
        HeapImages x = new HeapImages();
        Due.is("at first", x.told(0, 1), 0);
        x.poke(0, 0, 64);
        Due.is("a poked word is not used", x.told(0, 1), 0);
        x.make(0, CELLS, 0);
        Due.is("one word", x.told(0, 1), 1);
        filled(x, 0, 256);
        Due.is("all", x.told(0, 1), 256);
    }

    private static void roots() {
        Due.sentence("ROOTS 0 .. 3, values (at first 0)");
        HeapImages x = new HeapImages();
        for (int heap = 0; heap < 2; heap++) {
            int h = heap;
            for (int r = 0; r < 4; r++) {
                Due.is("root " + r + " at first", x.root(h, r, 2 * r + 1), 0);
                Due.is("root " + r + " then", x.root(h, r, 0), 2 * r + 1);
            }
            for (int r : new int[] {-1, 4}) {
                Due.noIndex("root " + r, () -> x.root(h, r, 1));
            }
        }
    }

    private static void addresses() {
        Due.sentence("Word w has the ADDRESS base + 4 w");
        for (int base : new int[] {4, 4096, 1000000}) {
            HeapImages x = new HeapImages();
            x.move(0, base);
            Due.is("word 0", x.make(0, CELLS, 1), base);
            filled(x, 0, 255);
            Due.is("word 255", x.make(0, CELLS, 0), base + 1020);
            x.set(0, base, 0, base + 1020);
            Due.is("a reference to word 255", x.check(0), 0);
            x.root(0, 0, base + 1020);
            Due.is("it is come to", x.told(0, 2), 1);
            x.set(0, base, 0, base + 1024);
            Due.is("no word 256", x.check(0), 3001);
            x.set(0, base, 0, base - 4);
            Due.is("no word -1", x.check(0), base == 4 ? 0 : 3001);
        }
    }

    /** Makes objects of a heap until its top is there. */
    private static void filled(HeapImages x, int heap, int top) {
        while (x.told(heap, 1) < top) {
            x.make(heap, DATA, Math.min(40, top - x.told(heap, 1) - 1));
        }
    }

    /** The fault of a heap whose object at word 0 has got another head, with zeros behind it. */
    private static int checkOfHead(int head, int top) {
        HeapImages x = new HeapImages();
        filled(x, 0, top);
        x.poke(0, 0, x.word(0, 0) ^ head);
        for (int w = 1; w < top; w++) {
            x.poke(0, w, x.word(0, w));
        }
        if (head == 194) {
            x.poke(0, 2, 1);
        }
        return x.check(0);
    }

    private static void headsOfCells() {
        Due.sentence("Kinds: 1 CELLS, n 0 .. 40 values");
        Due.is("n -1", checkOfHead(63, 1), 1000);
        Due.is("n 0", checkOfHead(64, 1), 0);
        Due.is("n 40", checkOfHead(104, 41), 0);
        Due.is("n 41", checkOfHead(105, 42), 1000);
    }

    private static void headsOfData() {
        Due.sentence("2 DATA, n 0 .. 40 words, any ones");
        Due.is("n -1", checkOfHead(127, 1), 1000);
        Due.is("n 0", checkOfHead(128, 1), 0);
        Due.is("n 40", checkOfHead(168, 41), 0);
        Due.is("n 41", checkOfHead(169, 42), 1000);
        HeapImages x = new HeapImages();
        int data = x.make(0, DATA, 1);
        for (int word : new int[] {Integer.MIN_VALUE, -2, -1, 0, 1, 2, data, data + 4, Integer.MAX_VALUE - 1}) {
            x.set(0, data, 0, word);
            Due.is("word " + word, x.check(0), 0);
        }
    }

    private static void headsOfLinks() {
        Due.sentence("3 LINK, n is 2, two values");
        Due.is("n 0", checkOfHead(192, 1), 1000);
        Due.is("n 1", checkOfHead(193, 2), 1000);
        Due.is("n 2", checkOfHead(194, 3), 0);
        Due.is("n 3", checkOfHead(195, 4), 1000);
        Due.is("n 40", checkOfHead(232, 41), 1000);
    }

    private static void headsOfNoKind() {
        Due.sentence("An OBJECT is a HEAD, 64 times its kind and the number n of its slots, and n words");
        for (int head : new int[] {0, 1, 2, 40, 255, 256, 258, 320, -62, -64, -128, -192, Integer.MIN_VALUE,
            Integer.MIN_VALUE + 64, Integer.MIN_VALUE + 194, Integer.MAX_VALUE, 64 + (1 << 8), 64 + (1 << 16)}) {
            Due.is("head " + head, checkOfHead(head, 3), 1000);
        }
    }

    private static void numbers() {
        Due.sentence("a NUMBER v, -2^30 .. 2^30 - 1, as 2 v + 1");
        int[] vs = {-(1 << 30), -1, 0, (1 << 30) - 1};
        int[] words = {Integer.MIN_VALUE + 1, -1, 1, Integer.MAX_VALUE};
        long[] counts = {(1L << 32) - 1, 3, 1, (1L << 32) - 3};
        for (int i = 0; i < vs.length; i++) {
            HeapImages x = new HeapImages();
            x.root(0, 0, 2 * vs[i] + 1);
            Due.is("word of " + vs[i], x.root(0, 0, words[i]), words[i]);
            Due.is("check of " + vs[i], x.check(0), 0);
            ImageBytes due = ImageBytes.begun().counts(0, counts[i], 0, 0, 0).summed();
            x.dump(0);
            Due.isTrue("image of " + vs[i], State.image(x).equals(due.bytes));
        }
    }

    private static void references() {
        Due.sentence("a REFERENCE, the address of an object's head in its heap");
        HeapImages x = new HeapImages();
        int first = x.make(0, CELLS, 1);
        int last = x.make(0, DATA, 1);
        x.make(1, CELLS, 1);
        int other = x.make(1, CELLS, 5);
        x.make(1, CELLS, 1);
        for (int word : new int[] {0, first, last}) {
            x.set(0, first, 0, word);
            Due.is("value " + word, x.check(0), 0);
        }
        // The top, where an object of the other heap stands; slots; no words; beside a head; wrapped.
        for (int word : new int[] {other + 8, first + 16, first + 4, last + 4, first - 4, first + 2, last - 2,
            last + 2, first + 1024, first + (1 << 31), -first}) {
            x.set(0, first, 0, word);
            Due.is("value " + word, x.check(0), 3001);
        }
    }

    private static void linkValues() {
        Due.sentence("The first value of a LINK is NONE or a reference, the second one a number");
        HeapImages x = new HeapImages();
        int link = x.make(0, LINK, 2);
        int[] words = {0, link, 1, -1, Integer.MAX_VALUE, Integer.MIN_VALUE + 1};
        for (int i = 0; i < words.length; i++) {
            x.set(0, link, 0, words[i]);
            x.set(0, link, 1, 1);
            Due.is("first " + words[i], x.check(0), i < 2 ? 0 : 4001);
            x.set(0, link, 0, 0);
            x.set(0, link, 1, words[i]);
            Due.is("second " + words[i], x.check(0), i < 2 ? 5002 : 0);
        }
    }

    private static void objectsStandToTheTop() {
        Due.sentence("A heap is VALID if objects stand one behind the other from word 0 to the top");
        HeapImages x = new HeapImages();
        x.poke(0, 0, -1);
        Due.is("none, whatever words there are", x.check(0), 0);
        filled(x, 0, 256);
        Due.is("to word 255", x.check(0), 0);
        x.poke(0, 246, x.word(0, 246) ^ 136);
        Due.is("to word 254 alone, then a 0", x.check(0), 1255);
    }

    private static void faultOfHeads() {
        Due.sentence("1 a head that is none");
        HeapImages x = new HeapImages();
        filled(x, 0, 255);
        x.make(0, CELLS, 0);
        x.poke(0, 255, 64);
        Due.is("the last word", x.check(0), 1255);
        x.poke(0, 0, 1 << 30);
        Due.is("the first word", x.check(0), 1000);
    }

    private static void faultBeyondTheTop() {
        Due.sentence("2 an object that goes beyond the top");
        HeapImages x = new HeapImages();
        filled(x, 0, 255);
        x.make(0, CELLS, 0);
        Due.is("to the top", x.check(0), 0);
        x.poke(0, 255, 64 ^ 65);
        Due.is("by one, beyond all words", x.check(0), 2255);
        x.poke(0, 255, 65 ^ 168);
        Due.is("by forty, beyond all words", x.check(0), 2255);
        HeapImages y = new HeapImages();
        y.make(0, CELLS, 1);
        y.poke(0, 0, 65 ^ 66);
        Due.is("by one, from word 0", y.check(0), 2000);
        y.poke(0, 0, 66 ^ 194);
        Due.is("a link by one", y.check(0), 2000);
        y.make(0, CELLS, 0);
        Due.is("a link whose number is a head", y.check(0), 3002);
    }

    private static void faultOfValues() {
        Due.sentence("3 an even one that is neither NONE nor a reference");
        HeapImages x = new HeapImages();
        x.make(0, CELLS, 40);
        filled(x, 0, 246);
        int last = x.make(0, CELLS, 9);
        x.set(0, last, 8, -2);
        Due.is("in word 255", x.check(0), 3255);
        x.set(0, last, 8, 3);
        Due.is("an odd one", x.check(0), 0);
        x.set(0, 4096, 39, 2);
        Due.is("in slot 39", x.check(0), 3040);
        x.set(0, 4096, 0, Integer.MIN_VALUE);
        Due.is("in word 1", x.check(0), 3001);
    }

    /** A heap of 256 words with links at its first and its last words. */
    private static HeapImages linksAtBothEnds() {
        HeapImages x = new HeapImages();
        x.make(0, LINK, 2);
        filled(x, 0, 253);
        x.make(0, LINK, 2);
        Due.is("both links", x.check(0), 0);
        return x;
    }

    private static void faultOfLinkReferences() {
        Due.sentence("4 a number where a LINK has none");
        HeapImages x = linksAtBothEnds();
        x.set(0, 4096 + 4 * 253, 0, 1);
        Due.is("in the last link", x.check(0), 4254);
        x.set(0, 4096, 0, -1);
        Due.is("in the first link", x.check(0), 4001);
        x.set(0, 4096, 0, 2);
        Due.is("an even one that is none is fault 3", x.check(0), 3001);
    }

    private static void faultOfLinkNumbers() {
        Due.sentence("5 no number where it has one");
        HeapImages x = linksAtBothEnds();
        x.set(0, 4096 + 4 * 253, 1, 0);
        Due.is("NONE in the last link", x.check(0), 5255);
        x.set(0, 4096, 1, 4096);
        Due.is("a reference in the first link", x.check(0), 5002);
        x.set(0, 4096, 1, 2);
        Due.is("an even one that is none is fault 3", x.check(0), 3002);
    }

    private static void faultOfRoots() {
        Due.sentence("then roots: 6 an even one that is neither");
        HeapImages x = new HeapImages();
        x.root(0, 3, 4096);
        Due.is("no object in an empty heap", x.check(0), 6003);
        x.make(0, CELLS, 1);
        Due.is("root 3 refers to one now", x.check(0), 0);
        x.root(0, 3, 4100);
        Due.is("a slot's address", x.check(0), 6003);
        x.root(0, 0, 2);
        Due.is("root 0 comes first", x.check(0), 6000);
        x.root(0, 0, 3);
        x.root(0, 3, -1);
        Due.is("numbers", x.check(0), 0);
    }

    private static void firstFault() {
        Due.sentence("FAULTS, the first one that is met: objects in their order; then values; then roots");
        HeapImages x = linksAtBothEnds();
        x.root(0, 1, 2);
        Due.is("a root", x.check(0), 6001);
        x.set(0, 4096 + 4 * 253, 1, 0);
        Due.is("a value of the last object", x.check(0), 5255);
        x.set(0, 4096 + 4 * 253, 0, 3);
        Due.is("the value before it", x.check(0), 4254);
        x.set(0, 4096, 1, 6);
        Due.is("a value of the first object", x.check(0), 3002);
        x.poke(0, 253, 194 ^ 67);
        Due.is("the last object, beyond the top", x.check(0), 2253);
        x.poke(0, 3, 1 << 20);
        Due.is("a head before it", x.check(0), 1003);
        x.poke(0, 0, -1);
        Due.is("the first head", x.check(0), 1000);
    }

    private static void orderOfRoots() {
        Due.sentence("objects of the roots that are references");
        HeapImages x = new HeapImages();
        Due.is("no root refers", x.told(0, 2), 0);
        for (int r = 0; r < 4; r++) {
            x.root(0, 3 - r, x.make(0, DATA, r));
            Due.is("so many roots refer", x.told(0, 2), r + 1);
        }
        x.dump(0);
        // Root 0 has the object that was made last.
        Due.isTrue("the roots' order", State.image(x).subList(8, 11).equals(List.of(2, 3, 0))
            && State.image(x).subList(22, 24).equals(List.of(2, 2)));
    }

    private static void orderOfValues() {
        Due.sentence("then, object by object, of their values in their order");
        HeapImages x = new HeapImages();
        int deep = x.make(0, DATA, 0);
        int left = x.make(0, CELLS, 1);
        int right = x.make(0, LINK, 2);
        int top = x.make(0, CELLS, 2);
        x.root(0, 3, top);
        x.set(0, top, 0, right);
        x.set(0, top, 1, left);
        x.set(0, left, 0, deep);
        x.set(0, right, 0, deep);
        ImageBytes due = ImageBytes.begun().counts(4, 0, 0, 0, 2).counts(1, 2, 4, 6).counts(3, 2, 8, 1)
            .counts(1, 1, 8).counts(2, 0).summed();
        x.dump(0);
        Due.isTrue("level by level", State.image(x).equals(due.bytes));
    }

    private static void eachOnce() {
        Due.sentence("each once: object 0, 1, ..");
        HeapImages x = new HeapImages();
        int cells = x.make(0, CELLS, 40);
        for (int r = 0; r < 4; r++) {
            x.root(0, r, cells);
        }
        for (int slot = 0; slot < 40; slot++) {
            x.set(0, cells, slot, cells);
        }
        Due.is("44 times", x.told(0, 2), 1);
        Due.is("dump", x.dump(0), 3 + 1 + 4 + 2 + 40 + 2);
    }

    private static void imageOfNothing() {
        Due.sentence("IMAGE: three bytes 72, 73, 1; then, as COUNTS, how many objects that are; of each root");
        HeapImages x = new HeapImages();
        x.make(0, CELLS, 3);
        Due.is("nothing can be come to", x.dump(0), 10);
        Due.isTrue("its bytes", State.image(x).equals(List.of(72, 73, 1, 0, 0, 0, 0, 0, 221, 0)));
    }

    /** Four chains of cells with one slot, as many objects as can be come to with so few words. */
    private static HeapImages chains(int objects) {
        HeapImages x = new HeapImages();
        for (int i = 0; i < objects; i++) {
            int made = x.make(0, CELLS, i < objects - 4 ? 1 : 0);
            if (i < 4) {
                x.root(0, i, made);
            } else {
                x.set(0, 4096 + 8 * (i - 4), 0, made);
            }
        }
        return x;
    }

    private static void imageOfTheMostObjects() {
        Due.sentence("as COUNTS, how many objects that are (127, 128, and 130, the most that 256 words can hold)");
        for (int objects : new int[] {127, 128, 130}) {
            HeapImages x = chains(objects);
            Due.is("words", x.told(0, 1), 2 * objects - 4);
            Due.is("come to", x.told(0, 2), objects);
            ImageBytes due = ImageBytes.begun().counts(objects, 2, 4, 6, 8);
            for (int k = 0; k < objects; k++) {
                due.counts(1, k < objects - 4 ? 1 : 0);
                if (k < objects - 4) {
                    due.counts(2 * (k + 4) + 2);
                }
            }
            Due.is("size", x.dump(0), due.summed().size());
            Due.isTrue("bytes", State.image(x).equals(due.bytes));
            x.pass(0, 2000);
            Due.is("restored", x.restore(1, 1000000), objects);
            Due.isTrue("same", x.same());
            Due.is("nothing to sweep", x.sweep(0), 0);
        }
    }

    private static void imageOfReferences() {
        Due.sentence("2 k + 2 for object k (62 is told by one byte, 63 by two)");
        HeapImages x = chains(64);
        x.dump(0);
        List<Integer> image = State.image(x);
        int object58 = 8 + 3 * 58;
        Due.isTrue("object 62", image.subList(object58, object58 + 3).equals(List.of(1, 1, 126)));
        Due.isTrue("object 63", image.subList(object58 + 3, object58 + 7).equals(List.of(1, 1, 128, 1)));
    }

    private static void imageOfNumbers() {
        Due.sentence("for a number 4 v + 1 if v is not below 0, else 4 (-1 - v) + 3; seven bits a byte");
        int[] lasts = {31, 4095, 524287, 67108863, (1 << 30) - 1};
        for (int i = 0; i < lasts.length; i++) {
            isLong("last of " + (i + 1), lasts[i], i + 1);
            isLong("last of " + (i + 1) + " below 0", -1 - lasts[i], i + 1);
            if (i < 4) {
                isLong("first of " + (i + 2), lasts[i] + 1, i + 2);
                isLong("first of " + (i + 2) + " below 0", -2 - lasts[i], i + 2);
            }
        }
        isLong("0", 0, 1);
        isLong("-1", -1, 1);
    }

    private static void isLong(String what, int number, int bytes) {
        HeapImages x = new HeapImages();
        x.root(0, 2, 2 * number + 1);
        long count = number >= 0 ? 4L * number + 1 : 4 * (-1L - number) + 3;
        ImageBytes due = ImageBytes.begun().counts(0, 0, 0, count, 0).summed();
        Due.is(what + " size", x.dump(0), 9 + bytes);
        Due.isTrue(what + " bytes", State.image(x).equals(due.bytes));
        x.pass(0, 2000);
        Due.is(what + " restored", x.restore(1, 4), 0);
        Due.is(what + " number", State.rootOf(x, 1, 2), 2 * number + 1);
    }

    private static void imageOfData() {
        Due.sentence("of DATA four bytes each word, lowest first");
        int[] words = {0, 255, 256, 65536, 1 << 24, Integer.MAX_VALUE, Integer.MIN_VALUE, -1};
        HeapImages x = new HeapImages();
        x.root(0, 0, x.make(0, DATA, words.length));
        for (int i = 0; i < words.length; i++) {
            x.set(0, 4096, i, words[i]);
        }
        Due.is("size", x.dump(0), 10 + 32 + 2);
        for (int i = 0; i < words.length; i++) {
            for (int b = 0; b < 4; b++) {
                Due.is("byte " + b + " of " + words[i], x.byteAt(10 + 4 * i + b), words[i] >>> 8 * b & 255);
            }
        }
        Due.is("no words, no bytes", emptyDataSize(), 12);
    }

    private static int emptyDataSize() {
        HeapImages x = new HeapImages();
        x.root(0, 0, x.make(0, DATA, 0));
        return x.dump(0);
    }

    private static void imageSum() {
        Due.sentence("Then two bytes, lowest first: the sum of all bytes before times their places and 1,"
            + " its rest by 65521");
        for (int want : new int[] {65519, 65520, 65521, 65522, 65535, 65536, 131041, 131042, 131043}) {
            HeapImages x = withSum(want);
            int size = x.dump(0);
            int rest = want % 65521;
            Due.is("low byte for " + want, x.byteAt(size - 2), rest % 256);
            Due.is("high byte for " + want, x.byteAt(size - 1), rest / 256);
            x.pass(0, size);
            Due.is("restored with " + want, x.restore(1, 4), 1);
        }
    }

    /** A heap with a DATA of 20 words whose bytes make the image's sum what is wanted. */
    private static HeapImages withSum(int want) {
        HeapImages x = new HeapImages();
        x.root(0, 0, x.make(0, DATA, 20));
        int left = want - (72 + 2 * 73 + 3 + 4 + 2 * 5 + 2 * 9 + 20 * 10);
        int[] words = new int[20];
        // From the last byte, whose place counts most, down to the first one, whose place is 10.
        for (int i = 79; i >= 0 && left > 0; i--) {
            int times = Math.min(255, left / (i + 11));
            if (left - times * (i + 11) < 11 && left != times * (i + 11)) {
                times--;
            }
            times = Math.max(0, times);
            words[i / 4] |= times << 8 * (i % 4);
            left -= times * (i + 11);
        }
        for (int i = 0; i < 20; i++) {
            x.set(0, 4096, i, words[i]);
        }
        Due.is("what is left of " + want, left, 0);
        return x;
    }
}
