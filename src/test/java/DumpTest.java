import java.util.List;

/** Promises 11 (dump) and 12 (byteAt). */
public final class DumpTest {
    public static void main(String[] args) {
        empty();
        numbers();
        order();
        data();
        countsOfMoreBytes();
        longest();
        refuses();
        keepsTheLastImage();
        Due.end();
    }

    private static void isImage(String what, HeapImages x, int heap, ImageBytes due) {
        Due.is(what + " size", x.dump(heap), due.size());
        List<Integer> got = State.image(x);
        Due.isTrue(what + " " + got + " for " + due.bytes, got.equals(due.bytes));
    }

    private static void empty() {
        isImage("empty", new HeapImages(), 1, ImageBytes.begun().counts(0, 0, 0, 0, 0).summed());
    }

    private static void numbers() {
        int[] values = {0, -1, 1, -2, 31, 32, -32, -33, 4095, 4096, (1 << 30) - 1, -(1 << 30)};
        long[] counts = {1, 3, 5, 7, 125, 129, 127, 131, 16381, 16385, 4294967293L, 4294967295L};
        for (int i = 0; i < values.length; i++) {
            HeapImages x = new HeapImages();
            int cells = x.make(0, HeapImages.CELLS, 1);
            int link = x.make(0, HeapImages.LINK, 2);
            x.root(0, 0, cells);
            x.root(0, 1, link);
            x.root(0, 3, 2 * values[i] + 1);
            x.set(0, cells, 0, 2 * values[i] + 1);
            x.set(0, link, 1, 2 * values[i] + 1);
            isImage("number " + values[i], x, 0, ImageBytes.begun()
                .counts(2, 2, 4, 0, counts[i], 1, 1, counts[i], 3, 2, 0, counts[i]).summed());
        }
    }

    private static void order() {
        HeapImages x = new HeapImages();
        int a = x.make(1, HeapImages.CELLS, 0);
        int b = x.make(1, HeapImages.LINK, 2);
        int c = x.make(1, HeapImages.CELLS, 3);
        int d = x.make(1, HeapImages.CELLS, 2);
        int unreached = x.make(1, HeapImages.CELLS, 1);
        x.set(1, unreached, 0, a);
        x.root(1, 1, d);
        x.root(1, 2, b);
        x.root(1, 3, d);
        // Level by level: d and b by the roots, then c by d, then a by c; not a before c.
        x.set(1, d, 0, c);
        x.set(1, d, 1, b);
        x.set(1, b, 0, d);
        x.set(1, c, 0, a);
        x.set(1, c, 1, c);
        ImageBytes due = ImageBytes.begun().counts(4, 0, 2, 4, 2)
            .counts(1, 2, 6, 4).counts(3, 2, 2, 1).counts(1, 3, 8, 6, 0).counts(1, 0).summed();
        isImage("order", x, 1, due);
        x.move(1, 12);
        isImage("order elsewhere", x, 1, due);
    }

    private static void data() {
        HeapImages x = new HeapImages();
        int data = x.make(0, HeapImages.DATA, 4);
        int[] words = {0x04030201, -1, Integer.MIN_VALUE, data};
        for (int i = 0; i < words.length; i++) {
            x.set(0, data, i, words[i]);
        }
        x.root(0, 0, data);
        isImage("data", x, 0, ImageBytes.begun().counts(1, 2, 0, 0, 0, 2, 4).raw(1, 2, 3, 4, 255, 255, 255, 255)
            .raw(0, 0, 0, 128, 0, 16, 0, 0).summed());
    }

    private static void countsOfMoreBytes() {
        HeapImages x = new HeapImages();
        int[] rows = new int[4];
        for (int i = 0; i < 4; i++) {
            rows[i] = x.make(0, HeapImages.CELLS, 40);
            x.root(0, i, rows[i]);
        }
        ImageBytes due = ImageBytes.begun().counts(96, 2, 4, 6, 8);
        for (int i = 0, k = 4; i < 4; i++) {
            due.counts(1, 40);
            for (int slot = 0; slot < 40; slot++) {
                boolean refers = k < 96;
                x.set(0, rows[i], slot, refers ? x.make(0, HeapImages.DATA, 0) : 0);
                due.counts(refers ? 2 * k + 2 : 0);
                k += refers ? 1 : 0;
            }
        }
        Due.is("top is the last", x.told(0, 1), 256);
        for (int k = 4; k < 96; k++) {
            due.counts(2, 0);
        }
        isImage("96 objects", x, 0, due.summed());
        Due.is("restored", x.pass(0, 2000) == due.size() ? x.restore(1, 4) : -9999, 96);
        Due.isTrue("same", x.same());
    }

    private static void longest() {
        HeapImages x = new HeapImages();
        int big = Integer.MIN_VALUE + 1;
        int[] rows = new int[7];
        for (int i = 0; i < 7; i++) {
            rows[i] = x.make(0, HeapImages.CELLS, i < 6 ? 40 : 9);
        }
        for (int i = 0; i < 7; i++) {
            int slots = i < 6 ? 40 : 9;
            for (int slot = 0; slot < slots; slot++) {
                x.set(0, rows[i], slot, slot == 0 && i < 6 ? rows[i + 1] : big);
            }
        }
        x.root(0, 0, rows[0]);
        x.root(0, 1, big);
        x.root(0, 2, big);
        x.root(0, 3, big);
        int due = 3 + 1 + 16 + 14 + 6 + 243 * 5 + 2;
        Due.is("long image", x.dump(0), due);
        Due.is("its pass", x.pass(0, due), due);
        Due.is("its restore", x.restore(1, 4096), 7);
        Due.isTrue("same", x.same());
    }

    private static void refuses() {
        HeapImages x = new HeapImages();
        Due.noIndex("dump(-1)", () -> x.dump(-1));
        Due.noIndex("dump(2)", () -> x.dump(2));
        Due.noIndex("byteAt(0) of no image", () -> x.byteAt(0));
        x.dump(0);
        for (int i : new int[] {-1, 10, 11, 1999, 2000, Integer.MIN_VALUE, Integer.MAX_VALUE}) {
            Due.noIndex("byteAt(" + i + ")", () -> x.byteAt(i));
        }
        Due.is("the last byte", x.byteAt(9), 0);
    }

    private static void keepsTheLastImage() {
        HeapImages x = new HeapImages();
        x.root(0, 0, 3);
        x.dump(0);
        List<Integer> image = State.image(x);
        x.root(0, 0, 2);
        Due.noState("dump of no valid heap", () -> x.dump(0));
        x.root(0, 0, 5);
        x.make(0, HeapImages.CELLS, 3);
        x.pass(0, 99);
        x.restore(1, 8);
        x.sweep(0);
        x.same();
        Due.isTrue("the image stays", image.equals(State.image(x)));
        Due.is("a shorter one", x.dump(1), 10);
        x.root(1, 0, Integer.MIN_VALUE + 1);
        Due.is("a longer one", x.dump(1), 14);
        x.root(1, 0, 0);
        Due.is("a shorter one again", x.dump(1), 10);
        Due.noIndex("bytes of the longer one are gone", () -> x.byteAt(10));
    }
}
