/** Promise 8 (check). */
public final class CheckTest {
    public static void main(String[] args) {
        heads();
        objectsComeBeforeValues();
        values();
        links();
        valuesInTheirOrder();
        roots();
        changesNothing();
        Due.noIndex("check(-1)", () -> new HeapImages().check(-1));
        Due.noIndex("check(2)", () -> new HeapImages().check(2));
        Due.end();
    }

    private static boolean isHead(long word) {
        return word >= 64 && word <= 104 || word >= 128 && word <= 168 || word == 194;
    }

    private static void heads() {
        for (int word = -300; word <= 400; word++) {
            HeapImages x = new HeapImages();
            x.make(0, HeapImages.CELLS, 0);
            x.make(0, HeapImages.DATA, 40);
            x.poke(0, 1, 168 ^ word);
            int due = 1001;
            if (isHead(word)) {
                // Behind a shorter object stands a word 0, which is no head.
                int behind = 2 + word % 64;
                due = behind == 42 ? 0 : 1000 + behind;
            }
            Due.is("head " + word, x.check(0), due);
            Due.is("objects with head " + word, x.told(0, 3), isHead(word) ? 2 : 1);
        }
        for (int word : new int[] {Integer.MIN_VALUE, Integer.MIN_VALUE + 64, Integer.MAX_VALUE, 64 + (1 << 20)}) {
            HeapImages x = new HeapImages();
            x.make(0, HeapImages.CELLS, 0);
            x.poke(0, 0, 64 ^ word);
            Due.is("head " + word, x.check(0), 1000);
        }
        for (int n = 0; n <= 40; n++) {
            HeapImages x = new HeapImages();
            x.make(0, HeapImages.CELLS, 3);
            x.make(0, HeapImages.DATA, 0);
            x.poke(0, 4, 128 ^ 128 + n);
            Due.is(n + " slots at the top", x.check(0), n == 0 ? 0 : 2004);
        }
        HeapImages x = new HeapImages();
        x.make(0, HeapImages.DATA, 1);
        x.poke(0, 0, 129 ^ 194);
        Due.is("a link beyond the top", x.check(0), 2000);
    }

    private static void objectsComeBeforeValues() {
        HeapImages x = new HeapImages();
        int first = x.make(0, HeapImages.CELLS, 1);
        x.make(0, HeapImages.CELLS, 0);
        x.root(0, 0, 2);
        Due.is("a root", x.check(0), 6000);
        x.set(0, first, 0, 2);
        Due.is("a value", x.check(0), 3001);
        x.poke(0, 2, 1);
        Due.is("an object beyond", x.check(0), 2002);
        x.poke(0, 2, 2048);
        Due.is("no head", x.check(0), 1002);
        x.poke(0, 0, 2048);
        Due.is("the first head", x.check(0), 1000);
    }

    private static void values() {
        HeapImages x = new HeapImages();
        int cells = x.make(0, HeapImages.CELLS, 2);
        int data = x.make(0, HeapImages.DATA, 2);
        int last = x.make(0, HeapImages.LINK, 2);
        int behind = last + 12;
        x.poke(0, 9, 64);
        int[] good = {0, cells, data, last, 1, -1, 4097, Integer.MAX_VALUE, Integer.MIN_VALUE + 1};
        int[] bad = {2, -2, 4, cells - 4, cells + 2, cells + 4, cells + 8, last + 4, behind, cells + 1024,
            cells + 4096, -cells, Integer.MIN_VALUE, Integer.MAX_VALUE - 1, cells + (1 << 31)};
        for (int slot = 0; slot < 2; slot++) {
            for (int word : good) {
                x.set(0, cells, slot, word);
                Due.is("value " + word, x.check(0), 0);
            }
            for (int word : bad) {
                x.set(0, cells, slot, word);
                Due.is("value " + word, x.check(0), 3001 + slot);
            }
            x.set(0, cells, slot, 0);
            for (int word : bad) {
                x.set(0, data, slot, word);
                Due.is("data " + word, x.check(0), 0);
            }
        }
    }

    private static void links() {
        HeapImages x = new HeapImages();
        int data = x.make(0, HeapImages.DATA, 1);
        int link = x.make(0, HeapImages.LINK, 2);
        int[] firsts = {0, 0, data, 0, link, 0, 1, 4, -1, 4, 2, 3, data + 4, 3};
        int[] seconds = {1, 0, -1, 0, data + 1, 0, 0, 5, data, 5, 2, 3, data + 4, 3};
        for (int i = 0; i < firsts.length; i += 2) {
            x.set(0, link, 0, firsts[i]);
            Due.is("first " + firsts[i], x.check(0), firsts[i + 1] == 0 ? 0 : 1000 * firsts[i + 1] + 3);
        }
        x.set(0, link, 0, 0);
        for (int i = 0; i < seconds.length; i += 2) {
            x.set(0, link, 1, seconds[i]);
            Due.is("second " + seconds[i], x.check(0), seconds[i + 1] == 0 ? 0 : 1000 * seconds[i + 1] + 4);
        }
        x.set(0, link, 0, 1);
        Due.is("the first of two", x.check(0), 4003);
    }

    private static void valuesInTheirOrder() {
        HeapImages x = new HeapImages();
        int link = x.make(0, HeapImages.LINK, 2);
        int cells = x.make(0, HeapImages.CELLS, 2);
        x.set(0, cells, 1, 2);
        Due.is("last", x.check(0), 3005);
        x.set(0, cells, 0, 2);
        Due.is("before it", x.check(0), 3004);
        x.set(0, link, 1, 0);
        Due.is("the link's number", x.check(0), 5002);
        x.set(0, link, 0, 1);
        Due.is("the link's reference", x.check(0), 4001);
    }

    private static void roots() {
        HeapImages x = new HeapImages();
        int cells = x.make(1, HeapImages.CELLS, 1);
        for (int r = 3; r >= 0; r--) {
            for (int word : new int[] {0, 1, -7, cells}) {
                x.root(1, r, word);
                Due.is("root " + word, x.check(1), r == 3 ? 0 : 6001 + r);
            }
            for (int word : new int[] {2, cells + 4, cells + 8, cells - 4, Integer.MIN_VALUE}) {
                x.root(1, r, word);
                Due.is("root " + word, x.check(1), 6000 + r);
            }
        }
        Due.is("the other heap", x.check(0), 0);
    }

    private static void changesNothing() {
        HeapImages x = new HeapImages();
        int cells = x.make(0, HeapImages.CELLS, 3);
        x.set(0, cells, 0, cells);
        x.set(0, cells, 2, 6);
        x.root(0, 1, 8);
        x.poke(0, 200, 77);
        var before = State.of(x);
        x.check(0);
        Due.isTrue("nothing changes", before.equals(State.of(x)));
    }
}
