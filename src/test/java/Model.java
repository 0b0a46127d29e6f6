import java.util.ArrayList;
import java.util.Arrays;
import java.util.LinkedHashMap;
import java.util.List;
import java.util.Map;
import java.util.TreeMap;

/** The document once more, written with the Java library and without regard to room or speed. */
final class Model {
    static final class Heap {
        int base = 4096;
        int top = 0;
        int[] words = new int[256];
        int[] roots = new int[4];

        /** Words of heads by their addresses, up to the first one that is none or goes beyond. */
        TreeMap<Integer, Integer> objects() {
            TreeMap<Integer, Integer> found = new TreeMap<>();
            int w = 0;
            while (w < top && slots(words[w]) >= 0 && w + slots(words[w]) < top) {
                found.put(base + 4 * w, w);
                w += 1 + slots(words[w]);
            }
            return found;
        }

        int fault() {
            TreeMap<Integer, Integer> objects = objects();
            int end = 0;
            for (int w : objects.values()) {
                end = w + 1 + slots(words[w]);
            }
            if (end != top) {
                return slots(words[end]) < 0 ? 1000 + end : 2000 + end;
            }
            for (int w : objects.values()) {
                for (int i = 1; words[w] / 64 != 2 && i <= slots(words[w]); i++) {
                    int value = words[w + i];
                    boolean odd = Math.floorMod(value, 2) == 1;
                    if (!odd && value != 0 && !objects.containsKey(value)) {
                        return 3000 + w + i;
                    }
                    if (words[w] == 194 && i == 1 && odd) {
                        return 4000 + w + i;
                    }
                    if (words[w] == 194 && i == 2 && !odd) {
                        return 5000 + w + i;
                    }
                }
            }
            for (int r = 0; r < 4; r++) {
                if (Math.floorMod(roots[r], 2) == 0 && roots[r] != 0 && !objects.containsKey(roots[r])) {
                    return 6000 + r;
                }
            }
            return 0;
        }

        /** Numbers in the order by addresses. */
        Map<Integer, Integer> order() {
            TreeMap<Integer, Integer> objects = objects();
            Map<Integer, Integer> numbers = new LinkedHashMap<>();
            List<Integer> queue = new ArrayList<>();
            List<Integer> values = new ArrayList<>();
            for (int root : roots) {
                values.add(root);
            }
            for (int k = 0; ; k++) {
                for (int value : values) {
                    if (objects.containsKey(value) && !numbers.containsKey(value)) {
                        numbers.put(value, numbers.size());
                        queue.add(objects.get(value));
                    }
                }
                if (k == queue.size()) {
                    return numbers;
                }
                values = valuesAt(queue.get(k));
            }
        }

        private List<Integer> valuesAt(int w) {
            List<Integer> values = new ArrayList<>();
            for (int i = 1; words[w] / 64 != 2 && i <= slots(words[w]); i++) {
                values.add(words[w + i]);
            }
            return values;
        }

        int move(int to) {
            TreeMap<Integer, Integer> objects = objects();
            int changed = 0;
            for (int w : objects.values()) {
                for (int i = 1; i <= valuesAt(w).size(); i++) {
                    if (objects.containsKey(words[w + i])) {
                        words[w + i] += to - base;
                        changed++;
                    }
                }
            }
            for (int r = 0; r < 4; r++) {
                if (objects.containsKey(roots[r])) {
                    roots[r] += to - base;
                    changed++;
                }
            }
            int by = to - base;
            base = to;
            return by == 0 ? 0 : changed;
        }

        int sweep() {
            Map<Integer, Integer> order = order();
            Map<Integer, Integer> goes = new TreeMap<>();
            List<Integer> kept = new ArrayList<>();
            TreeMap<Integer, Integer> objects = objects();
            for (int address : objects.keySet()) {
                if (order.containsKey(address)) {
                    goes.put(address, base + 4 * kept.size());
                    int w = objects.get(address);
                    for (int i = 0; i <= slots(words[w]); i++) {
                        kept.add(w + i);
                    }
                }
            }
            int[] fresh = new int[256];
            for (int i = 0; i < kept.size(); i++) {
                fresh[i] = words[kept.get(i)];
            }
            int free = top - kept.size();
            words = fresh;
            top = kept.size();
            for (int w : objects().values()) {
                for (int i = 1; i <= valuesAt(w).size(); i++) {
                    words[w + i] = goes.getOrDefault(words[w + i], words[w + i]);
                }
            }
            for (int r = 0; r < 4; r++) {
                roots[r] = goes.getOrDefault(roots[r], roots[r]);
            }
            return free;
        }

        List<Integer> image() {
            Map<Integer, Integer> order = order();
            TreeMap<Integer, Integer> objects = objects();
            ImageBytes out = ImageBytes.begun().counts(order.size());
            for (int root : roots) {
                out.counts(count(order, root));
            }
            for (int address : order.keySet()) {
                int w = objects.get(address);
                out.counts(words[w] / 64, words[w] % 64);
                for (int value : valuesAt(w)) {
                    out.counts(count(order, value));
                }
                if (words[w] / 64 == 2) {
                    out.data(Arrays.copyOfRange(words, w + 1, w + 1 + slots(words[w])));
                }
            }
            return out.summed().bytes;
        }

        private static long count(Map<Integer, Integer> order, int value) {
            if (value == 0) {
                return 0;
            }
            if (order.containsKey(value)) {
                return 2 * order.get(value) + 2;
            }
            long v = ((long) value - 1) / 2;
            return v >= 0 ? 4 * v + 1 : 4 * (-1 - v) + 3;
        }
    }

    /** How many slots a head tells, or -1 if it is none. */
    static int slots(int head) {
        if (head >= 64 && head <= 104 || head >= 128 && head <= 168 || head == 194) {
            return head % 64;
        }
        return -1;
    }

    /** Reading ends at a place. */
    static final class Ends extends RuntimeException {
        private static final long serialVersionUID = 1;
        final int place;

        Ends(int place) {
            this.place = place;
        }
    }

    /** Restores by exceptions, where the program goes on with a mark. */
    static final class Parser {
        private final List<Integer> bytes;
        private final Heap heap = new Heap();
        private final List<Integer> starts = new ArrayList<>();
        private final List<int[]> references = new ArrayList<>();
        private int at = 0;
        private int told = 0;
        int objects = 0;

        Parser(List<Integer> bytes) {
            this.bytes = bytes;
        }

        private int take() {
            if (at == bytes.size()) {
                throw new Ends(at);
            }
            return bytes.get(at++);
        }

        private long count() {
            int start = at;
            List<Integer> digits = new ArrayList<>();
            int b;
            do {
                b = take();
                digits.add(b % 128);
                if (digits.size() == 6) {
                    throw new Ends(start);
                }
            } while (b > 127);
            long count = 0;
            for (int i = digits.size() - 1; i >= 0; i--) {
                count = count * 128 + digits.get(i);
            }
            if (b == 0 && digits.size() > 1 || count > 8589934591L) {
                throw new Ends(start);
            }
            return count;
        }

        /** A value for a word, or for root r if r is not below 0. */
        private void value(int w, int r, boolean refers, boolean counts) {
            int start = at;
            long count = count();
            long v = count % 4 == 1 ? count / 4 : -1 - count / 4;
            if (count % 2 == 1) {
                if (!counts || v >= 1 << 30 || v < -(1 << 30)) {
                    throw new Ends(start);
                }
                put(w, r, (int) (2 * v + 1));
                return;
            }
            if (!refers || count / 2 > told + 1 || count / 2 > objects) {
                throw new Ends(start);
            }
            if (count > 0) {
                told = Math.max(told, (int) (count / 2));
                references.add(new int[] {w, r, (int) (count / 2) - 1});
            }
        }

        private void put(int w, int r, int word) {
            if (r >= 0) {
                heap.roots[r] = word;
            } else {
                heap.words[w] = word;
            }
        }

        private void object(int k) {
            int kindAt = at;
            long kind = count();
            if (kind < 1 || kind > 3 || told <= k) {
                throw new Ends(kindAt);
            }
            int slotsAt = at;
            long n = count();
            if (n > 40 || kind == 3 && n != 2) {
                throw new Ends(slotsAt);
            }
            if (heap.top + n > 255) {
                throw new Ends(kindAt);
            }
            starts.add(heap.top);
            heap.words[heap.top] = (int) (64 * kind + n);
            for (int i = 1; i <= n; i++) {
                if (kind == 2) {
                    heap.words[heap.top + i] = take() + (take() << 8) + (take() << 16) + (take() << 24);
                } else {
                    value(heap.top + i, -1, kind == 1 || i == 1, kind == 1 || i == 2);
                }
            }
            heap.top += 1 + (int) n;
        }

        Heap parse(int base) {
            for (int due : new int[] {72, 73, 1}) {
                if (take() != due) {
                    throw new Ends(at - 1);
                }
            }
            long count = count();
            if (count > 256) {
                throw new Ends(3);
            }
            objects = (int) count;
            for (int r = 0; r < 4; r++) {
                value(-1, r, true, true);
            }
            for (int k = 0; k < objects; k++) {
                object(k);
            }
            int sumAt = at;
            List<Integer> two = List.of(take(), take());
            ImageBytes before = new ImageBytes();
            before.bytes.addAll(bytes.subList(0, sumAt));
            if (!two.equals(before.summed().bytes.subList(sumAt, sumAt + 2))) {
                throw new Ends(sumAt);
            }
            if (at < bytes.size()) {
                throw new Ends(at);
            }
            heap.base = base;
            for (int[] reference : references) {
                put(reference[0], reference[1], base + 4 * starts.get(reference[2]));
            }
            return heap;
        }
    }

    final Heap[] heaps = {new Heap(), new Heap()};
    List<Integer> image = new ArrayList<>();
    final List<Integer> input = new ArrayList<>();

    private Heap heap(int heap) {
        needIndex(heap >= 0 && heap < 2);
        return heaps[heap];
    }

    private static void needIndex(boolean good) {
        if (!good) {
            throw new IndexOutOfBoundsException();
        }
    }

    private static void needArgument(boolean good) {
        if (!good) {
            throw new IllegalArgumentException();
        }
    }

    private static void needRoom(boolean good) {
        if (!good) {
            throw new UnsupportedOperationException();
        }
    }

    private static void needValid(Heap h) {
        if (h.fault() != 0) {
            throw new IllegalStateException();
        }
    }

    private static void needBase(int base) {
        needArgument(base >= 4 && base <= 1000000 && base % 4 == 0);
    }

    int make(int heap, int kind, int n) {
        Heap h = heap(heap);
        needArgument(kind >= 1 && kind <= 3 && n >= 0 && n <= 40 && (kind != 3 || n == 2));
        needRoom(h.top + 1 + n <= 256);
        int address = h.base + 4 * h.top;
        h.words[h.top] = 64 * kind + n;
        for (int i = 1; i <= n; i++) {
            h.words[h.top + i] = kind == 3 && i == 2 ? 1 : 0;
        }
        h.top += 1 + n;
        return address;
    }

    private int slot(Heap h, int address, int slot) {
        Integer w = h.objects().get(address);
        needIndex(w != null);
        needIndex(slot >= 0 && slot < slots(h.words[w]));
        return w + 1 + slot;
    }

    int set(int heap, int address, int slot, int word) {
        Heap h = heap(heap);
        int place = slot(h, address, slot);
        int was = h.words[place];
        h.words[place] = word;
        return was;
    }

    int at(int heap, int address, int slot) {
        Heap h = heap(heap);
        return h.words[slot(h, address, slot)];
    }

    int root(int heap, int root, int word) {
        Heap h = heap(heap);
        needIndex(root >= 0 && root < 4);
        int was = h.roots[root];
        h.roots[root] = word;
        return was;
    }

    int poke(int heap, int word, int mask) {
        Heap h = heap(heap);
        needIndex(word >= 0 && word < 256);
        h.words[word] ^= mask;
        return h.words[word];
    }

    int word(int heap, int word) {
        Heap h = heap(heap);
        needIndex(word >= 0 && word < 256);
        return h.words[word];
    }

    int check(int heap) {
        return heap(heap).fault();
    }

    int move(int heap, int base) {
        Heap h = heap(heap);
        needBase(base);
        needValid(h);
        return h.move(base);
    }

    int sweep(int heap) {
        needValid(heap(heap));
        return heap(heap).sweep();
    }

    int dump(int heap) {
        needValid(heap(heap));
        image = heap(heap).image();
        return image.size();
    }

    int byteAt(int i) {
        needIndex(i >= 0 && i < image.size());
        return image.get(i);
    }

    int feed(int b) {
        needArgument(b >= 0 && b <= 255);
        needRoom(input.size() < 2000);
        input.add(b);
        return input.size();
    }

    int pass(int i, int n) {
        needIndex(i >= 0 && i < image.size());
        needArgument(n >= 0);
        List<Integer> part = image.subList(i, (int) Math.min(image.size(), (long) i + n));
        needRoom(input.size() + part.size() <= 2000);
        input.addAll(part);
        return part.size();
    }

    int restore(int heap, int base) {
        heap(heap);
        needBase(base);
        Parser parser = new Parser(new ArrayList<>(input));
        input.clear();
        try {
            heaps[heap] = parser.parse(base);
            return parser.objects;
        } catch (Ends e) {
            return -1 - e.place;
        }
    }

    boolean same() {
        needValid(heaps[0]);
        needValid(heaps[1]);
        return heaps[0].image().equals(heaps[1].image());
    }

    int told(int heap, int what) {
        Heap h = heap(heap);
        needArgument(what >= 0 && what <= 3);
        if (what == 2) {
            needValid(h);
        }
        return List.of(h.base, h.top, what == 2 ? h.order().size() : 0, h.objects().size()).get(what);
    }

    void clear() {
        heaps[0] = new Heap();
        heaps[1] = new Heap();
        image = new ArrayList<>();
        input.clear();
    }
}
