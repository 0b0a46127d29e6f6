/** Promises 9 (move) and 10 (sweep). */
public final class MoveSweepTest {
    public static void main(String[] args) {
        move();
        moveRefuses();
        sweep();
        sweepKeepsTheOrderOfPlaces();
        sweepDoesNotFollowData();
        sweepOfAllOrNothing();
        sweepRefuses();
        Due.end();
    }

    private static void move() {
        HeapImages x = new HeapImages();
        int cells = x.make(0, HeapImages.CELLS, 4);
        int data = x.make(0, HeapImages.DATA, 2);
        int link = x.make(0, HeapImages.LINK, 2);
        x.set(0, cells, 0, cells);
        x.set(0, cells, 1, link);
        x.set(0, cells, 3, data + 1);
        x.set(0, data, 0, cells);
        x.set(0, link, 0, data);
        x.set(0, link, 1, 9);
        x.root(0, 0, link);
        x.root(0, 2, cells);
        x.root(0, 3, 4097);
        x.poke(0, 255, cells);
        Due.is("move", x.move(0, 8), 5);
        int[] due = {68, 8, 40, 0, data + 1, 130, cells, 0, 194, 28, 9, 0};
        for (int w = 0; w < due.length; w++) {
            Due.is("word " + w, x.word(0, w), due[w]);
        }
        Due.is("a word behind the top", x.word(0, 255), cells);
        int[] roots = {40, 0, 8, 4097};
        for (int r = 0; r < roots.length; r++) {
            Due.is("root " + r, State.rootOf(x, 0, r), roots[r]);
        }
        Due.is("base", x.told(0, 0), 8);
        Due.is("check", x.check(0), 0);
        Due.is("to where it is", x.move(0, 8), 0);
        // The new places overlap the old ones: none may be moved twice.
        Due.is("by one word", x.move(0, 12), 5);
        Due.is("itself", x.at(0, 12, 0), 12);
        Due.is("the link", x.at(0, 12, 1), 44);
        Due.is("the lowest base", x.move(0, 4), 5);
        Due.is("the highest base", x.move(0, 1000000), 5);
        Due.is("there", x.at(0, 1000000, 1), 1000032);
        Due.is("check there", x.check(0), 0);
        Due.is("of an empty heap", x.move(1, 1000000), 0);
    }

    private static void moveRefuses() {
        HeapImages x = new HeapImages();
        int cells = x.make(0, HeapImages.CELLS, 1);
        x.set(0, cells, 0, cells);
        for (int base : new int[] {0, 1, 2, 3, 5, 6, -4, 1000001, 1000004, 4098, Integer.MIN_VALUE, Integer.MAX_VALUE}) {
            Due.noArgument("move to " + base, () -> x.move(0, base));
        }
        Due.noIndex("move of heap -1", () -> x.move(-1, 3));
        Due.noIndex("move of heap 2", () -> x.move(2, 8));
        x.root(0, 3, 2);
        Due.noState("move of no valid heap", () -> x.move(0, 8));
        Due.noState("move of no valid heap to where it is", () -> x.move(0, 4096));
        Due.noArgument("the base comes first", () -> x.move(0, 7));
        Due.is("base stays", x.told(0, 0), 4096);
        Due.is("word stays", x.word(0, 1), cells);
    }

    private static void sweep() {
        HeapImages x = new HeapImages();
        x.make(0, HeapImages.DATA, 4);
        int cells = x.make(0, HeapImages.CELLS, 2);
        int gone = x.make(0, HeapImages.LINK, 2);
        int data = x.make(0, HeapImages.DATA, 1);
        int link = x.make(0, HeapImages.LINK, 2);
        x.make(0, HeapImages.CELLS, 1);
        x.set(0, gone, 0, cells);
        x.set(0, cells, 0, link);
        x.set(0, cells, 1, cells);
        x.set(0, link, 0, data);
        x.set(0, link, 1, -3);
        x.set(0, data, 0, link);
        x.root(0, 1, cells);
        x.root(0, 2, cells + 1);
        x.poke(0, 255, 5);
        int image = x.dump(0);
        var bytes = State.image(x);
        Due.is("sweep", x.sweep(0), 10);
        int[] due = {66, 4116, 4096, 129, link, 194, 4108, -3};
        for (int w = 0; w < 256; w++) {
            Due.is("word " + w, x.word(0, w), w < due.length ? due[w] : 0);
        }
        Due.is("top", x.told(0, 1), 8);
        Due.is("root", State.rootOf(x, 0, 1), 4096);
        Due.is("a number in a root", State.rootOf(x, 0, 2), cells + 1);
        Due.is("base", x.told(0, 0), 4096);
        Due.is("check", x.check(0), 0);
        Due.is("sweep again", x.sweep(0), 0);
        Due.is("the image's size", x.dump(0), image);
        Due.isTrue("the image", bytes.equals(State.image(x)));
    }

    private static void sweepKeepsTheOrderOfPlaces() {
        HeapImages x = new HeapImages();
        x.move(0, 400);
        int a = x.make(0, HeapImages.CELLS, 1);
        x.make(0, HeapImages.CELLS, 0);
        int b = x.make(0, HeapImages.CELLS, 2);
        x.make(0, HeapImages.CELLS, 0);
        int c = x.make(0, HeapImages.CELLS, 3);
        x.root(0, 0, c);
        x.set(0, c, 0, b);
        x.set(0, b, 0, a);
        x.set(0, a, 0, c);
        Due.is("sweep", x.sweep(0), 2);
        int[] due = {65, 420, 66, 400, 0, 67, 408, 0, 0, 0};
        for (int w = 0; w < due.length; w++) {
            Due.is("word " + w, x.word(0, w), due[w]);
        }
        Due.is("root", State.rootOf(x, 0, 0), 420);
    }

    private static void sweepDoesNotFollowData() {
        HeapImages x = new HeapImages();
        int gone = x.make(0, HeapImages.CELLS, 2);
        int data = x.make(0, HeapImages.DATA, 2);
        x.set(0, data, 0, gone);
        x.set(0, data, 1, data);
        x.root(0, 0, data);
        Due.is("reached", x.told(0, 2), 1);
        Due.is("sweep", x.sweep(0), 3);
        int[] due = {130, gone, data, 0};
        for (int w = 0; w < due.length; w++) {
            Due.is("word " + w, x.word(0, w), due[w]);
        }
        Due.is("root", State.rootOf(x, 0, 0), 4096);
    }

    private static void sweepOfAllOrNothing() {
        HeapImages x = new HeapImages();
        Due.is("of an empty heap", x.sweep(0), 0);
        x.poke(0, 0, 7);
        x.poke(0, 255, 7);
        Due.is("of an empty heap with words", x.sweep(0), 0);
        Due.is("word 0", x.word(0, 0), 0);
        Due.is("word 255", x.word(0, 255), 0);
        for (int i = 0; i < 6; i++) {
            x.make(0, HeapImages.DATA, 40);
        }
        int last = x.make(0, HeapImages.CELLS, 9);
        x.set(0, last, 0, last);
        Due.is("of a full heap", x.sweep(0), 256);
        Due.is("top", x.told(0, 1), 0);
        Due.isTrue("words", State.words(x, 0).equals(State.words(x, 1)));
    }

    private static void sweepRefuses() {
        HeapImages x = new HeapImages();
        x.make(0, HeapImages.CELLS, 1);
        x.root(0, 0, 6);
        x.poke(0, 255, 3);
        Due.noState("sweep of no valid heap", () -> x.sweep(0));
        Due.is("top stays", x.told(0, 1), 2);
        Due.is("word stays", x.word(0, 255), 3);
        Due.noIndex("sweep(-1)", () -> x.sweep(-1));
        Due.noIndex("sweep(2)", () -> x.sweep(2));
    }
}
