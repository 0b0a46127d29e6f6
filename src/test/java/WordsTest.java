/** Promises 2 (make), 3 (set), 4 (at), 5 (root), 6 (poke) and 7 (word). */
public final class WordsTest {
    private static final int[] NO_HEAPS = {-1, 2, Integer.MIN_VALUE, Integer.MAX_VALUE};

    public static void main(String[] args) {
        make();
        makeOverPokedWords();
        makeRefuses();
        makeToTheLastWord();
        makeBehindBrokenObjects();
        setAndAt();
        setAndAtRefuse();
        objectsUpToTheFirstFault();
        root();
        pokeAndWord();
        Due.end();
    }

    private static void make() {
        HeapImages x = new HeapImages();
        Due.is("first", x.make(1, HeapImages.CELLS, 3), 4096);
        Due.is("second", x.make(1, HeapImages.DATA, 2), 4112);
        Due.is("third", x.make(1, HeapImages.LINK, 2), 4124);
        Due.is("fourth", x.make(1, HeapImages.DATA, 0), 4136);
        Due.is("fifth", x.make(1, HeapImages.CELLS, 0), 4140);
        Due.is("sixth", x.make(1, HeapImages.DATA, 40), 4144);
        int[] due = {67, 0, 0, 0, 130, 0, 0, 194, 0, 1, 128, 64, 168, 0};
        for (int w = 0; w < due.length; w++) {
            Due.is("word " + w, x.word(1, w), due[w]);
        }
        Due.is("check", x.check(1), 0);
        Due.is("top", x.told(1, 1), 53);
        x.move(1, 8);
        Due.is("in a moved heap", x.make(1, HeapImages.CELLS, 40), 8 + 4 * 53);
    }

    private static void makeOverPokedWords() {
        for (int kind = 1; kind <= 3; kind++) {
            HeapImages x = new HeapImages();
            for (int w = 0; w < 4; w++) {
                x.poke(0, w, -1);
            }
            x.make(0, kind, 2);
            Due.is("head", x.word(0, 0), 64 * kind + 2);
            Due.is("first slot", x.word(0, 1), 0);
            Due.is("second slot", x.word(0, 2), kind == HeapImages.LINK ? 1 : 0);
            Due.is("word behind", x.word(0, 3), -1);
        }
    }

    private static void makeRefuses() {
        HeapImages x = new HeapImages();
        for (int heap : NO_HEAPS) {
            Due.noIndex("make in heap " + heap, () -> x.make(heap, 1, 1));
            Due.noIndex("make of kind 0 in heap " + heap, () -> x.make(heap, 0, 1));
        }
        for (int kind : new int[] {-1, 0, 4, 65, Integer.MIN_VALUE, Integer.MAX_VALUE}) {
            Due.noArgument("make of kind " + kind, () -> x.make(0, kind, 2));
        }
        for (int n : new int[] {-1, 41, 64, Integer.MIN_VALUE, Integer.MAX_VALUE}) {
            for (int kind = 1; kind <= 3; kind++) {
                int k = kind;
                Due.noArgument("make of kind " + k + " with " + n, () -> x.make(0, k, n));
            }
        }
        for (int n : new int[] {0, 1, 3, 40}) {
            Due.noArgument("make of a link with " + n, () -> x.make(0, HeapImages.LINK, n));
        }
        Due.is("top after refusals", x.told(0, 1), 0);
        Due.is("word 0 after refusals", x.word(0, 0), 0);
    }

    private static void makeToTheLastWord() {
        HeapImages x = new HeapImages();
        for (int i = 0; i < 6; i++) {
            x.make(0, HeapImages.DATA, 40);
        }
        Due.is("top", x.told(0, 1), 246);
        Due.noOperation("ten slots do not fit", () -> x.make(0, HeapImages.CELLS, 10));
        Due.noArgument("what is none comes first", () -> x.make(0, HeapImages.CELLS, 41));
        Due.is("nine slots fit", x.make(0, HeapImages.CELLS, 9), 4096 + 4 * 246);
        Due.noOperation("nothing fits", () -> x.make(0, HeapImages.CELLS, 0));
        Due.noOperation("no link fits", () -> x.make(0, HeapImages.LINK, 2));
        Due.is("top at the end", x.told(0, 1), 256);
        Due.is("check", x.check(0), 0);
        Due.is("the other heap", x.make(1, HeapImages.CELLS, 40), 4096);
        HeapImages y = new HeapImages();
        for (int i = 0; i < 256; i++) {
            Due.is("object " + i, y.make(0, HeapImages.CELLS, 0), 4096 + 4 * i);
        }
        Due.is("256 objects", y.told(0, 3), 256);
        Due.noOperation("one more", () -> y.make(0, HeapImages.CELLS, 0));
    }

    private static void makeBehindBrokenObjects() {
        HeapImages x = new HeapImages();
        x.make(0, HeapImages.CELLS, 1);
        x.poke(0, 0, -1);
        Due.is("behind a head that is none", x.make(0, HeapImages.LINK, 2), 4104);
        Due.is("its head", x.word(0, 2), 194);
        Due.is("it is not come to", x.told(0, 3), 0);
    }

    private static void setAndAt() {
        HeapImages x = new HeapImages();
        int[] made = {x.make(0, 1, 3), x.make(0, 2, 2), x.make(0, 3, 2)};
        int[] slots = {3, 2, 2};
        int[] any = {Integer.MIN_VALUE, -1, 0, 2, 3, 4096, 4100, Integer.MAX_VALUE};
        for (int i = 0; i < made.length; i++) {
            for (int slot = 0; slot < slots[i]; slot++) {
                int before = i == 2 && slot == 1 ? 1 : 0;
                for (int word : any) {
                    Due.is("at", x.at(0, made[i], slot), before);
                    Due.is("set", x.set(0, made[i], slot, word), before);
                    Due.is("the word", x.word(0, (made[i] - 4096) / 4 + 1 + slot), word);
                    before = word;
                }
            }
        }
        int[] heads = {67, 130, 194};
        int[] places = {0, 4, 7};
        for (int i = 0; i < heads.length; i++) {
            Due.is("heads stay", x.word(0, places[i]), heads[i]);
        }
        Due.is("top", x.told(0, 1), 10);
    }

    private static void setAndAtRefuse() {
        HeapImages x = new HeapImages();
        int cells = x.make(0, HeapImages.CELLS, 2);
        int empty = x.make(0, HeapImages.DATA, 0);
        x.poke(0, 4, 66);
        for (int heap : NO_HEAPS) {
            Due.noIndex("at in heap " + heap, () -> x.at(heap, cells, 0));
            Due.noIndex("set in heap " + heap, () -> x.set(heap, cells, 0, 1));
        }
        int behindTop = cells + 16;
        int[] none = {0, 1, 4092, cells + 1, cells + 2, cells + 4, behindTop, cells + 1024, cells + 1028,
            -cells, Integer.MIN_VALUE, Integer.MIN_VALUE + 4, Integer.MAX_VALUE, cells + (1 << 31)};
        for (int address : none) {
            Due.noIndex("at address " + address, () -> x.at(0, address, 0));
            Due.noIndex("set at address " + address, () -> x.set(0, address, 0, 1));
        }
        for (int slot : new int[] {-1, 2, 3, Integer.MIN_VALUE, Integer.MAX_VALUE}) {
            Due.noIndex("at slot " + slot, () -> x.at(0, cells, slot));
            Due.noIndex("set of slot " + slot, () -> x.set(0, cells, slot, 1));
        }
        Due.noIndex("at of no slots", () -> x.at(0, empty, 0));
        Due.noIndex("set of no slots", () -> x.set(0, empty, 0, 1));
        Due.noIndex("at in the empty heap", () -> x.at(1, cells, 0));
        int[] words = {66, 0, 0, 128, 66, 0};
        for (int w = 0; w < words.length; w++) {
            Due.is("word " + w + " after refusals", x.word(0, w), words[w]);
        }
        x.move(0, 400);
        Due.noIndex("at of the base before", () -> x.at(0, cells, 0));
        Due.is("at of the base now", x.at(0, 400, 1), 0);
    }

    private static void objectsUpToTheFirstFault() {
        HeapImages x = new HeapImages();
        int first = x.make(0, HeapImages.CELLS, 1);
        int second = x.make(0, HeapImages.LINK, 2);
        int third = x.make(0, HeapImages.DATA, 2);
        x.poke(0, 2, 1);
        Due.is("before a head that is none", x.at(0, first, 0), 0);
        Due.noIndex("a head that is none", () -> x.at(0, second, 0));
        Due.noIndex("behind it", () -> x.set(0, third, 0, 1));
        x.poke(0, 2, 1);
        x.poke(0, 5, 1);
        Due.is("before one that goes beyond", x.set(0, second, 0, 3), 0);
        Due.noIndex("one that goes beyond", () -> x.at(0, third, 0));
        x.poke(0, 5, 1);
        Due.is("whole again", x.set(0, third, 1, 8), 0);
        Due.is("values that are none do not hinder", x.at(0, third, 1), 8);
        x.poke(0, 0, 3);
        Due.is("an object that covers the next head", x.at(0, first, 1), 194);
        Due.noIndex("the covered one", () -> x.at(0, second, 0));
    }

    private static void root() {
        HeapImages x = new HeapImages();
        int[] any = {1, 2, -2, Integer.MIN_VALUE, Integer.MAX_VALUE, 4096, 0};
        for (int r = 0; r < 4; r++) {
            int before = 0;
            for (int word : any) {
                Due.is("root " + r, x.root(1, r, word), before);
                before = word;
            }
            x.root(1, r, 10 + r);
        }
        for (int r = 0; r < 4; r++) {
            Due.is("roots are apart", x.root(1, r, 0), 10 + r);
        }
        for (int r : new int[] {-1, 4, Integer.MIN_VALUE, Integer.MAX_VALUE}) {
            Due.noIndex("root " + r, () -> x.root(0, r, 1));
        }
        for (int heap : NO_HEAPS) {
            Due.noIndex("root of heap " + heap, () -> x.root(heap, 0, 1));
        }
    }

    private static void pokeAndWord() {
        HeapImages x = new HeapImages();
        Due.is("poke", x.poke(0, 0, 66), 66);
        Due.is("poke again", x.poke(0, 0, -1), -67);
        Due.is("word", x.word(0, 0), -67);
        Due.is("poke by nothing", x.poke(0, 0, 0), -67);
        Due.is("the last word", x.poke(0, 255, Integer.MIN_VALUE), Integer.MIN_VALUE);
        Due.is("the last word's word", x.word(0, 255), Integer.MIN_VALUE);
        Due.is("top stays", x.told(0, 1), 0);
        Due.is("words behind the top are no fault", x.check(0), 0);
        for (int w : new int[] {-1, 256, Integer.MIN_VALUE, Integer.MAX_VALUE}) {
            Due.noIndex("poke of word " + w, () -> x.poke(0, w, 1));
            Due.noIndex("word " + w, () -> x.word(0, w));
        }
        for (int heap : NO_HEAPS) {
            Due.noIndex("poke of heap " + heap, () -> x.poke(heap, 0, 1));
            Due.noIndex("word of heap " + heap, () -> x.word(heap, 0));
        }
    }
}
