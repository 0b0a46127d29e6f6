import java.util.ArrayList;
import java.util.List;
import java.util.Random;

/**
 * Laws that follow from the document and hold for every valid heap, whatever it has: drawn heaps are
 * held against them, with no second program to be wrong in the same way.
 */
public final class LawsTest {
    private static final int HEAPS = 400;
    private static final int TRIES = 40;
    private static final int LAST_SLOT = 4;

    private static int accepted = 0;

    private final int seed;
    private final Random random;

    private LawsTest(int seed) {
        this.seed = seed;
        random = new Random(seed + 1000000);
    }

    public static void main(String[] args) {
        for (int seed = 0; seed < HEAPS; seed++) {
            LawsTest laws = new LawsTest(seed);
            laws.restoredIsTheSame();
            laws.cutImageEndsAtItsCut();
            laws.longerImageEndsBehindIt();
            laws.noByteMayChange();
            laws.acceptedBytesAreTheImage();
            laws.movedThereAndBack();
            laws.sweptHasTheSameImage();
        }
        Due.isTrue("changed bytes accepted: " + accepted, accepted > 1000);
        Due.end();
    }

    /** Heap 0 is drawn, the same one for the same seed; heap 1 is empty. */
    private static HeapImages drawn(int seed) {
        Random random = new Random(seed);
        HeapImages x = new HeapImages();
        List<Integer> objects = new ArrayList<>();
        List<Integer> kinds = new ArrayList<>();
        int count = random.nextInt(14);
        for (int i = 0; i < count; i++) {
            int kind = 1 + random.nextInt(3);
            kinds.add(kind);
            objects.add(x.make(0, kind, kind == 3 ? 2 : random.nextInt(LAST_SLOT + 1)));
        }
        for (int i = 0; i < count; i++) {
            fill(x, objects.get(i), kinds.get(i), objects, random);
        }
        for (int r = 0; r < 4; r++) {
            x.root(0, r, value(objects, random));
        }
        Due.is("check of heap " + seed, x.check(0), 0);
        return x;
    }

    private static void fill(HeapImages x, int object, int kind, List<Integer> objects, Random random) {
        if (kind == 3) {
            x.set(0, object, 0, reference(objects, random));
            x.set(0, object, 1, number(random));
            return;
        }
        int slots = x.word(0, (object - 4096) / 4) - 64 * kind;
        for (int slot = 0; slot < slots; slot++) {
            x.set(0, object, slot, kind == 2 ? random.nextInt() : value(objects, random));
        }
    }

    private static int reference(List<Integer> objects, Random random) {
        return objects.isEmpty() || random.nextInt(5) == 0 ? 0 : objects.get(random.nextInt(objects.size()));
    }

    private static int number(Random random) {
        return 1 + 2 * (random.nextInt() >> (1 + random.nextInt(30)));
    }

    private static int value(List<Integer> objects, Random random) {
        return random.nextInt(3) == 0 ? number(random) : reference(objects, random);
    }

    private static List<Integer> imageOf(HeapImages x, int heap) {
        Due.is("dump tells the image's size", x.dump(heap), State.image(x).size());
        return State.image(x);
    }

    private void restoredIsTheSame() {
        Due.sentence("restore what was dumped: same, heap " + seed);
        HeapImages x = drawn(seed);
        List<Integer> image = imageOf(x, 0);
        int reached = x.told(0, 2);
        x.pass(0, 2000);
        Due.is("restore", x.restore(1, 400), reached);
        Due.isTrue("same", x.same());
        Due.isTrue("the image", imageOf(x, 1).equals(image));
        x.sweep(0);
        Due.is("top", x.told(1, 1), x.told(0, 1));
    }

    private void cutImageEndsAtItsCut() {
        Due.sentence("bytes lack (the place behind the last one), heap " + seed);
        HeapImages x = drawn(seed);
        int size = x.dump(0);
        for (int i = 0; i < TRIES; i++) {
            int cut = i == 0 ? size - 1 : random.nextInt(size);
            x.pass(0, cut);
            Due.is("restore of " + cut + " bytes", x.restore(1, 8), -1 - cut);
        }
        Due.is("heap 1 is empty", x.told(1, 1), 0);
    }

    private void longerImageEndsBehindIt() {
        Due.sentence("bytes are left (at the first one), heap " + seed);
        HeapImages x = drawn(seed);
        int size = x.dump(0);
        x.pass(0, size);
        x.feed(random.nextInt(256));
        Due.is("one more", x.restore(1, 8), -1 - size);
        x.pass(0, size);
        x.pass(0, size);
        Due.is("twice", x.restore(1, 8), -1 - size);
    }

    /** 65521 is a prime above each place and each byte, so that one other byte makes another sum. */
    private void noByteMayChange() {
        Due.sentence("the two bytes are other ones, heap " + seed);
        HeapImages x = drawn(seed);
        int size = x.dump(0);
        for (int i = 0; i < TRIES; i++) {
            int place = random.nextInt(size);
            int other = x.byteAt(place) ^ (1 + random.nextInt(255));
            passWith(x, place, other, size);
            int answer = x.restore(1, 8);
            Due.isTrue("byte " + place + " is " + other + ", answer " + answer, answer < 0 && -1 - answer <= size);
        }
        Due.is("heap 1 is empty", x.told(1, 1), 0);
    }

    /** The bytes of the image before an end, but with another one at a place. */
    private static void passWith(HeapImages x, int place, int other, int end) {
        x.pass(0, place);
        x.feed(other);
        if (place + 1 < end) {
            x.pass(place + 1, end - place - 1);
        }
    }

    /** Every heap has one image alone, and no other bytes can be restored to it. */
    private void acceptedBytesAreTheImage() {
        Due.sentence("what is restored has the IMAGE that was read, heap " + seed);
        HeapImages x = drawn(seed);
        List<Integer> image = imageOf(drawn(seed), 0);
        x.dump(0);
        int end = image.size() - 2;
        for (int i = 0; i < TRIES; i++) {
            int place = 3 + random.nextInt(end - 3);
            int other = image.get(place) ^ (1 << random.nextInt(8));
            ImageBytes changed = new ImageBytes();
            changed.bytes.addAll(image.subList(0, end));
            changed.bytes.set(place, other);
            List<Integer> all = changed.summed().bytes;
            passWith(x, place, other, end);
            x.feed(all.get(end));
            x.feed(all.get(end + 1));
            int answer = x.restore(1, 8);
            if (answer >= 0) {
                accepted++;
                isImage(all, answer);
            }
        }
    }

    private static void isImage(List<Integer> bytes, int answer) {
        HeapImages x = new HeapImages();
        ImageBytes.feedTo(x, bytes);
        Due.is("restored once more", x.restore(0, 1000000), answer);
        Due.is("check", x.check(0), 0);
        Due.is("objects", x.told(0, 3), answer);
        Due.is("objects come to", x.told(0, 2), answer);
        Due.isTrue("the image", imageOf(x, 0).equals(bytes));
        Due.is("sweep", x.sweep(0), 0);
    }

    private void movedThereAndBack() {
        Due.sentence("move to another base, heap " + seed);
        HeapImages x = drawn(seed);
        List<Integer> before = State.ofHeap(x, 0);
        List<Integer> image = imageOf(drawn(seed), 0);
        int base = 4 * (1 + random.nextInt(1000));
        int there = x.move(0, base);
        Due.is("check", x.check(0), 0);
        Due.isTrue("the image", imageOf(x, 0).equals(image));
        Due.is("back", x.move(0, 4096), there);
        Due.isTrue("all as before", State.ofHeap(x, 0).equals(before));
    }

    private void sweptHasTheSameImage() {
        Due.sentence("sweep: only what can be come to stays, heap " + seed);
        HeapImages x = drawn(seed);
        List<Integer> image = imageOf(drawn(seed), 0);
        int top = x.told(0, 1);
        int reached = x.told(0, 2);
        int freed = x.sweep(0);
        Due.is("top", x.told(0, 1), top - freed);
        Due.is("objects", x.told(0, 3), reached);
        Due.is("check", x.check(0), 0);
        Due.isTrue("the image", imageOf(x, 0).equals(image));
        Due.is("once more", x.sweep(0), 0);
    }
}
