import java.util.ArrayList;
import java.util.List;

/** Promise 15 (restore): what is read, and each place where reading ends. */
public final class RestoreTest {
    public static void main(String[] args) {
        good();
        takesTheHeapsPlace();
        oneAfterTheOther();
        sign();
        bytesLackOrAreLeft();
        counts();
        objectCount();
        values();
        numbersAtTheirEdges();
        objectsToldInOrder();
        kinds();
        slots();
        room();
        sum();
        refusesArguments();
        Due.end();
    }

    /** Feeds bytes to a new object; a refusal must leave the heap, and take all that is to be read. */
    private static void ends(String what, ImageBytes bytes, int due) {
        HeapImages x = new HeapImages();
        x.root(1, 0, x.make(1, HeapImages.CELLS, 1));
        List<Integer> before = State.ofHeap(x, 1);
        bytes.feedTo(x);
        Due.is(what, x.restore(1, 16), due);
        if (due < 0) {
            Due.isTrue(what + " leaves the heap", before.equals(State.ofHeap(x, 1)));
        } else {
            Due.is(what + " is valid", x.check(1), 0);
            x.dump(1);
            Due.isTrue(what + " is dumped as it was", bytes.bytes.equals(State.image(x)));
        }
        Due.is(what + " takes all", x.feed(1), 1);
    }

    private static ImageBytes oneObject() {
        return ImageBytes.begun().counts(1, 2, 0, 0, 0);
    }

    private static void good() {
        ends("nothing", ImageBytes.begun().counts(0, 0, 0, 0, 0).summed(), 0);
        ends("numbers", ImageBytes.begun().counts(0, 1, 3, 4294967293L, 4294967295L).summed(), 0);
        ends("cells", oneObject().counts(1, 2, 2, 0).summed(), 1);
        ends("data", oneObject().counts(2, 2).data(-1, 7).summed(), 1);
        ends("a link", oneObject().counts(3, 2, 2, 9).summed(), 1);
        ends("an empty one", oneObject().counts(2, 0).summed(), 1);
        ImageBytes most = oneObject().counts(1, 40);
        for (int i = 0; i < 40; i++) {
            most.counts(4 * i + 1);
        }
        ends("forty cells", most.summed(), 1);
    }

    private static void takesTheHeapsPlace() {
        HeapImages x = new HeapImages();
        for (int i = 0; i < 6; i++) {
            x.make(0, HeapImages.DATA, 40);
        }
        for (int w = 0; w < 256; w++) {
            x.poke(0, w, -1);
        }
        for (int r = 0; r < 4; r++) {
            x.root(0, r, 2);
        }
        ImageBytes.begun().counts(3, 5, 4 - 2, 0, 4).counts(1, 3, 6, 2, 27).counts(2, 1).data(0x01020304)
            .counts(3, 2, 4, 3).summed().feedTo(x);
        Due.is("objects", x.restore(0, 1000000), 3);
        int[] due = {67, 1000024, 1000000, -13, 129, 0x01020304, 194, 1000016, -1};
        for (int w = 0; w < 256; w++) {
            Due.is("word " + w, x.word(0, w), w < due.length ? due[w] : 0);
        }
        int[] roots = {3, 1000000, 0, 1000016};
        for (int r = 0; r < 4; r++) {
            Due.is("root " + r, State.rootOf(x, 0, r), roots[r]);
        }
        Due.is("base", x.told(0, 0), 1000000);
        Due.is("top", x.told(0, 1), 9);
        Due.is("check", x.check(0), 0);
        Due.is("the other heap", x.told(1, 1), 0);
        ImageBytes.begun().counts(0, 0, 0, 0, 0).summed().feedTo(x);
        Due.is("of nothing", x.restore(0, 4), 0);
        Due.is("base then", x.told(0, 0), 4);
        Due.is("top then", x.told(0, 1), 0);
        Due.is("word then", x.word(0, 0), 0);
        ImageBytes.begun().counts(0, 5, 0, 0, 0).summed().feedTo(x);
        Due.is("again", x.restore(0, 8), 0);
        Due.isTrue("words then", State.words(x, 0).equals(State.words(new HeapImages(), 0)));
    }

    private static void oneAfterTheOther() {
        HeapImages x = new HeapImages();
        ImageBytes.begun().counts(2, 2, 4, 0, 0).counts(1, 1, 13).counts(2, 1).data(7).summed().feedTo(x);
        Due.is("into heap 0", x.restore(0, 8), 2);
        List<Integer> zero = State.ofHeap(x, 0);
        ImageBytes.begun().counts(2, 2, 0, 0, 0).counts(1, 0).counts(1, 0).summed().feedTo(x);
        Due.is("object 1 was told before, but not here", x.restore(0, 16), -11);
        Due.isTrue("heap 0 stays", zero.equals(State.ofHeap(x, 0)));
        ImageBytes.begun().counts(1, 0, 0, 2, 0).counts(3, 2, 2, 5).summed().feedTo(x);
        Due.is("into heap 1", x.restore(1, 12), 1);
        Due.isTrue("heap 0 stays then", zero.equals(State.ofHeap(x, 0)));
        List<Integer> one = State.ofHeap(x, 1);
        ImageBytes.begun().counts(0, 4, 0, 0, 0).summed().feedTo(x);
        Due.is("into heap 0 again", x.restore(0, 16), -5);
        x.set(0, 8, 0, 15);
        Due.isTrue("heap 1 stays", one.equals(State.ofHeap(x, 1)));
        Due.is("heap 0 is set", x.at(0, 8, 0), 15);
    }

    private static void sign() {
        for (int i = 0; i < 3; i++) {
            ImageBytes bytes = ImageBytes.begun();
            bytes.bytes.set(i, bytes.bytes.get(i) + 1);
            ends("sign " + i, bytes.counts(0, 0, 0, 0, 0).summed(), -1 - i);
        }
        ends("another byte and then none", new ImageBytes().raw(72, 72), -2);
        ends("another third one", new ImageBytes().raw(72, 73, 0), -3);
    }

    private static void bytesLackOrAreLeft() {
        ImageBytes whole = ImageBytes.begun().counts(3, 2, 4, 200, 1001).counts(1, 3, 6, 4294967295L, 0)
            .counts(2, 2).data(-5, 70000).counts(3, 2, 2, 4000000001L).summed();
        ends("whole", new ImageBytes().raw(toArray(whole.bytes)), -6 - 1);
        whole = ImageBytes.begun().counts(3, 2, 4, 2, 1001).counts(1, 3, 6, 4294967295L, 0)
            .counts(2, 2).data(-5, 70000).counts(3, 2, 2, 4000000001L).summed();
        for (int size = 0; size < whole.size(); size++) {
            ImageBytes part = new ImageBytes().raw(toArray(whole.bytes.subList(0, size)));
            ends("the first " + size, part, -1 - size);
        }
        ends("whole", whole, 3);
        for (int b : new int[] {0, 72, 255}) {
            ImageBytes more = new ImageBytes().raw(toArray(whole.bytes)).raw(b);
            ends("one more", more, -1 - whole.size());
            ends("two more", more.raw(b), -1 - whole.size());
        }
    }

    private static int[] toArray(List<Integer> bytes) {
        int[] row = new int[bytes.size()];
        for (int i = 0; i < row.length; i++) {
            row[i] = bytes.get(i);
        }
        return row;
    }

    private static void counts() {
        int[][] none = {{128, 0}, {129, 0}, {255, 255, 0}, {128, 128, 128, 128, 0}, {129, 128, 128, 128, 32},
            {129, 128, 128, 128, 127}, {129, 128, 128, 128, 128, 0}, {129, 128, 128, 128, 128, 1},
            {129, 128, 128, 128, 128, 128}, {255, 255, 255, 255, 255, 255, 255, 255, 1}};
        for (int[] count : none) {
            String what = "count of " + count.length;
            ends(what + " as objects", ImageBytes.begun().raw(count).counts(0, 0, 0, 0).summed(), -4);
            ends(what + " as a root", ImageBytes.begun().counts(0, 0).raw(count).counts(0, 0).summed(), -6);
            ends(what + " as a kind", oneObject().raw(count).counts(0).summed(), -9);
            ends(what + " as slots", oneObject().counts(1).raw(count).summed(), -10);
            ends(what + " as a value", oneObject().counts(1, 1).raw(count).summed(), -11);
            ends(what + " at the end", oneObject().counts(1, 1).raw(count), -11);
        }
        int[][] lacking = {{128}, {255, 255}, {128, 128, 128, 128}, {255, 255, 255, 255, 255}};
        for (int[] count : lacking) {
            ends("no last byte", oneObject().counts(1, 1).raw(count), -1 - 10 - count.length);
        }
    }

    private static void objectCount() {
        ends("257 objects", ImageBytes.begun().counts(257, 2, 0, 0, 0).summed(), -4);
        ends("2^33 - 1 objects", ImageBytes.begun().counts((1L << 33) - 1, 2, 0, 0, 0).summed(), -4);
        ends("2^32 objects", ImageBytes.begun().counts(1L << 32, 0, 0, 0, 0).summed(), -4);
        ends("256 objects", ImageBytes.begun().counts(256, 2, 0, 0, 0).counts(1, 0).counts(1, 0).summed(), -12);
    }

    private static void values() {
        ends("a number in a link's first", oneObject().counts(3, 2, 1, 1).summed(), -11);
        ends("NONE in a link's first", oneObject().counts(3, 2, 0, 1).summed(), 1);
        ends("NONE in a link's second", oneObject().counts(3, 2, 0, 0).summed(), -12);
        ends("an object in a link's second", oneObject().counts(3, 2, 0, 2).summed(), -12);
        for (long none : new long[] {4294967297L, 4294967299L, (1L << 33) - 3, (1L << 33) - 1, (1L << 33) - 2, 1L << 32}) {
            ends("value " + none + " in a root", ImageBytes.begun().counts(1, 2, none, 0, 0).counts(1, 0).summed(), -6);
            ends("value " + none + " in cells", oneObject().counts(1, 2, 0, none).summed(), -12);
            ends("value " + none + " in a link", oneObject().counts(3, 2, 0, none).summed(), -12);
        }
    }

    private static void numbersAtTheirEdges() {
        long[] counts = {1, 3, 4294967293L, 4294967295L};
        int[] words = {1, -1, Integer.MAX_VALUE, Integer.MIN_VALUE + 1};
        for (int i = 0; i < counts.length; i++) {
            HeapImages x = new HeapImages();
            ImageBytes.begun().counts(1, counts[i], 2, 0, 0).counts(3, 2, 0, counts[i]).summed().feedTo(x);
            Due.is("restore", x.restore(0, 4), 1);
            Due.is("in a root", State.rootOf(x, 0, 0), words[i]);
            Due.is("in a link", x.at(0, 4, 1), words[i]);
        }
    }

    private static void objectsToldInOrder() {
        ends("object 0 of none", ImageBytes.begun().counts(0, 2, 0, 0, 0).summed(), -5);
        ends("object 1 before 0", ImageBytes.begun().counts(2, 4, 2, 0, 0).counts(1, 0, 1, 0).summed(), -5);
        ends("object 2 before 1", ImageBytes.begun().counts(3, 2, 6, 4, 0).counts(1, 0, 1, 0, 1, 0).summed(), -6);
        ends("object 1 of one", oneObject().counts(1, 1, 4).summed(), -11);
        ends("object 1 of two", ImageBytes.begun().counts(2, 2, 0, 0, 2).counts(1, 2, 4, 4).counts(1, 1, 2).summed(), 2);
        ends("object 2 before 1 in cells", ImageBytes.begun().counts(3, 2, 0, 0, 0).counts(1, 2, 6, 4).summed(), -11);
        ends("four roots", ImageBytes.begun().counts(4, 2, 4, 6, 8).counts(1, 0, 2, 0, 1, 0, 2, 0).summed(), 4);
        ends("told by a link", ImageBytes.begun().counts(2, 2, 0, 0, 0).counts(3, 2, 4, 1).counts(2, 0).summed(), 2);
    }

    private static void kinds() {
        for (long kind : new long[] {0, 4, 5, 127, 128, 4294967297L, (1L << 33) - 1}) {
            ends("kind " + kind, oneObject().counts(kind, 2, 0, 1).summed(), -9);
        }
        ends("an object that was not told", ImageBytes.begun().counts(1, 0, 0, 0, 0).counts(1, 0).summed(), -9);
        ends("a second one", ImageBytes.begun().counts(2, 2, 0, 0, 0).counts(1, 1, 2).counts(1, 0).summed(), -12);
        ends("only itself tells it", ImageBytes.begun().counts(2, 2, 0, 0, 0).counts(1, 0).counts(1, 1, 4).summed(), -11);
    }

    private static void slots() {
        for (long n : new long[] {41, 64, 127, 128, 4294967296L, 4294967298L}) {
            for (int kind = 1; kind <= 3; kind++) {
                ends(n + " slots of kind " + kind, oneObject().counts(kind, n, 0, 1).summed(), -10);
            }
        }
        for (long n : new long[] {0, 1, 3, 40}) {
            ends(n + " slots of a link", oneObject().counts(3, n, 0, 1).summed(), -10);
        }
    }

    /** Six objects with 246 words, all told by the first one, and then a last one. */
    private static ImageBytes nearlyFull(int kind, int n) {
        ImageBytes bytes = ImageBytes.begun().counts(7, 2, 0, 0, 0).counts(1, 40);
        for (int i = 0; i < 40; i++) {
            bytes.counts(i < 6 ? 2 * (i + 1) + 2 : 0);
        }
        for (int k = 1; k < 6; k++) {
            bytes.counts(1, 40).raw(new int[40]);
        }
        return bytes.counts(kind, n);
    }

    private static void room() {
        int kindAt = nearlyFull(1, 9).size() - 2;
        ends("to the last word", nearlyFull(1, 9).raw(new int[9]).summed(), 7);
        ends("one word too many", nearlyFull(1, 10).raw(new int[10]).summed(), -1 - kindAt);
        ends("far too many", nearlyFull(2, 40).summed(), -1 - kindAt);
        ends("looked at with n, not behind it", nearlyFull(2, 10), -1 - kindAt);
        ends("an n that is none comes first", nearlyFull(2, 41).summed(), -2 - kindAt);
        ends("a link fits", nearlyFull(3, 2).counts(0, 1).summed(), 7);
    }

    private static void sum() {
        ImageBytes whole = oneObject().counts(2, 1).data(123456).summed();
        int sumAt = whole.size() - 2;
        for (int i = 0; i < 2; i++) {
            for (int change : new int[] {1, 128, 255}) {
                ImageBytes bytes = new ImageBytes().raw(toArray(whole.bytes));
                bytes.bytes.set(sumAt + i, bytes.bytes.get(sumAt + i) ^ change);
                ends("sum " + i, bytes, -1 - sumAt);
                ends("sum before bytes that are left", bytes.raw(1), -1 - sumAt);
            }
        }
        List<Integer> swapped = new ArrayList<>(whole.bytes);
        swapped.set(10, whole.bytes.get(11));
        swapped.set(11, whole.bytes.get(10));
        ends("places count", new ImageBytes().raw(toArray(swapped)), -1 - sumAt);
        sumAboveItsRest();
    }

    private static void sumAboveItsRest() {
        ImageBytes bytes = oneObject().counts(2, 40);
        for (int i = 0; i < 40; i++) {
            bytes.data(-1 - i);
        }
        long sum = 0;
        for (int i = 0; i < bytes.size(); i++) {
            sum += (long) bytes.bytes.get(i) * (i + 1);
        }
        Due.isTrue("the sum is far above", sum > 10 * 65521);
        ends("a sum above 65521", bytes.summed(), 1);
    }

    private static void refusesArguments() {
        HeapImages x = new HeapImages();
        ImageBytes.begun().counts(0, 5, 0, 0, 0).summed().feedTo(x);
        for (int base : new int[] {0, 2, 3, 7, -8, 1000004, 999999, Integer.MIN_VALUE, Integer.MAX_VALUE}) {
            Due.noArgument("restore with base " + base, () -> x.restore(0, base));
        }
        for (int heap : new int[] {-1, 2, Integer.MIN_VALUE, Integer.MAX_VALUE}) {
            Due.noIndex("restore into heap " + heap, () -> x.restore(heap, 8));
            Due.noIndex("the heap comes first", () -> x.restore(heap, 7));
        }
        Due.is("what is to be read stays", x.restore(0, 4), 0);
        Due.is("root", State.rootOf(x, 0, 0), 3);
    }
}
