import java.util.Arrays;

/**
 * Two heaps of words with objects one behind the other: checked, moved, swept, dumped to bytes,
 * restored from bytes, and compared.
 */
public final class HeapImages {
    public static final int NONE = 0, CELLS = 1, DATA = 2, LINK = 3;

    private static final int HEAPS = 2;
    private static final int WORDS = 256;
    private static final int ROOTS = 4;
    private static final int WORD_BYTES = 4;

    private static final int FIRST_BASE = 4096;
    private static final int LOWEST_BASE = 4;
    private static final int HIGHEST_BASE = 1000000;

    private static final int KIND_UNIT = 64;
    private static final int MOST_SLOTS = 40;
    private static final int LINK_SLOTS = 2;

    private static final int FAULT_UNIT = 1000;
    private static final int NO_HEAD = 1, BEYOND_TOP = 2, NO_VALUE = 3, NUMBER_IN_LINK = 4,
            NO_NUMBER_IN_LINK = 5, NO_ROOT_VALUE = 6;

    private static final int SIGN_FIRST = 72, SIGN_SECOND = 73, SIGN_THIRD = 1;
    private static final int SUM_REST = 65521;
    private static final int MOST_BYTES = 2000;
    private static final int MOST_COUNT_BYTES = 5;
    private static final long COUNT_LIMIT = 1L << 33;
    private static final long NUMBER_COUNT_LIMIT = 1L << 32;

    private final Heap[] heaps;
    private final Bytes image;
    private final Bytes input;
    private final Reader reader;

    /** Restoring fills this one, so that a heap stays as it is until all bytes are found good. */
    private Heap spare;

    public HeapImages() {
        heaps = new Heap[HEAPS];
        for (int i = 0; i < HEAPS; i++) {
            heaps[i] = new Heap();
        }
        spare = new Heap();
        image = new Bytes();
        input = new Bytes();
        reader = new Reader(input);
    }

    public int make(int heap, int kind, int n)
            throws IndexOutOfBoundsException, IllegalArgumentException, UnsupportedOperationException {
        Heap h = heapOf(heap);
        if (!mayHaveSlots(kind, n)) {
            throw new IllegalArgumentException();
        }
        if (!h.hasRoomFor(n)) {
            throw new UnsupportedOperationException();
        }
        return h.addressOf(h.append(kind, n));
    }

    public int set(int heap, int address, int slot, int word) throws IndexOutOfBoundsException {
        Heap h = heapOf(heap);
        int place = slotPlace(h, address, slot);
        int before = h.words[place];
        h.words[place] = word;
        return before;
    }

    public int at(int heap, int address, int slot) throws IndexOutOfBoundsException {
        Heap h = heapOf(heap);
        return h.words[slotPlace(h, address, slot)];
    }

    public int root(int heap, int root, int word) throws IndexOutOfBoundsException {
        Heap h = heapOf(heap);
        if (root < 0 || root >= ROOTS) {
            throw new IndexOutOfBoundsException();
        }
        int before = h.roots[root];
        h.roots[root] = word;
        return before;
    }

    public int poke(int heap, int word, int mask) throws IndexOutOfBoundsException {
        Heap h = heapOf(heap);
        int place = wordPlace(word);
        h.words[place] ^= mask;
        return h.words[place];
    }

    public int word(int heap, int word) throws IndexOutOfBoundsException {
        Heap h = heapOf(heap);
        return h.words[wordPlace(word)];
    }

    public int check(int heap) throws IndexOutOfBoundsException {
        return heapOf(heap).firstFault();
    }

    public int move(int heap, int base)
            throws IndexOutOfBoundsException, IllegalArgumentException, IllegalStateException {
        Heap h = heapOf(heap);
        needBase(base);
        needValid(h);
        return h.moveTo(base);
    }

    public int sweep(int heap) throws IndexOutOfBoundsException, IllegalStateException {
        Heap h = heapOf(heap);
        needValid(h);
        return h.dropUnreached();
    }

    public int dump(int heap) throws IndexOutOfBoundsException, IllegalStateException {
        Heap h = heapOf(heap);
        needValid(h);
        h.writeTo(image);
        return image.size;
    }

    public int byteAt(int i) throws IndexOutOfBoundsException {
        needImagePlace(i);
        return image.row[i];
    }

    public int feed(int b) throws IllegalArgumentException, UnsupportedOperationException {
        if (b < 0 || b > 255) {
            throw new IllegalArgumentException();
        }
        if (input.size >= MOST_BYTES) {
            throw new UnsupportedOperationException();
        }
        input.add(b);
        return input.size;
    }

    public int pass(int i, int n)
            throws IndexOutOfBoundsException, IllegalArgumentException, UnsupportedOperationException {
        needImagePlace(i);
        if (n < 0) {
            throw new IllegalArgumentException();
        }
        int count = Math.min(n, image.size - i);
        if (input.size + count > MOST_BYTES) {
            throw new UnsupportedOperationException();
        }
        for (int k = i; k < i + count; k++) {
            input.add(image.row[k]);
        }
        return count;
    }

    public int restore(int heap, int base) throws IndexOutOfBoundsException, IllegalArgumentException {
        Heap before = heapOf(heap);
        needBase(base);
        spare.empty();
        spare.base = base;
        int answer = reader.readInto(spare);
        input.size = 0;
        if (answer >= 0) {
            heaps[heap] = spare;
            spare = before;
        }
        return answer;
    }

    public boolean same() throws IllegalStateException {
        needValid(heaps[0]);
        needValid(heaps[1]);
        return heaps[0].hasSameAs(heaps[1]);
    }

    public int told(int heap, int what)
            throws IndexOutOfBoundsException, IllegalArgumentException, IllegalStateException {
        Heap h = heapOf(heap);
        switch (what) {
            case 0:
                return h.base;
            case 1:
                return h.top;
            case 2:
                needValid(h);
                h.findOrder();
                return h.reached;
            case 3:
                h.listObjects();
                return h.objects;
            default:
                throw new IllegalArgumentException();
        }
    }

    public void clear() {
        for (int i = 0; i < HEAPS; i++) {
            heaps[i].empty();
        }
        image.size = 0;
        input.size = 0;
    }

    private Heap heapOf(int heap) {
        if (heap < 0 || heap >= HEAPS) {
            throw new IndexOutOfBoundsException();
        }
        return heaps[heap];
    }

    private static int slotPlace(Heap h, int address, int slot) {
        h.listObjects();
        int head = h.headOf(address);
        if (head < 0 || slot < 0 || slot >= slotsOf(h.words[head])) {
            throw new IndexOutOfBoundsException();
        }
        return head + 1 + slot;
    }

    private static int wordPlace(int word) {
        if (word < 0 || word >= WORDS) {
            throw new IndexOutOfBoundsException();
        }
        return word;
    }

    private void needImagePlace(int i) {
        if (i < 0 || i >= image.size) {
            throw new IndexOutOfBoundsException();
        }
    }

    private static void needBase(int base) {
        if (base < LOWEST_BASE || base > HIGHEST_BASE || base % WORD_BYTES != 0) {
            throw new IllegalArgumentException();
        }
    }

    private static void needValid(Heap h) {
        if (h.firstFault() != 0) {
            throw new IllegalStateException();
        }
    }

    /** Takes longs, since an image may tell a kind or a number of slots that is no int. */
    private static boolean mayHaveSlots(long kind, long n) {
        if (kind == LINK) {
            return n == LINK_SLOTS;
        }
        return (kind == CELLS || kind == DATA) && n >= 0 && n <= MOST_SLOTS;
    }

    private static boolean isHead(int word) {
        return word >= 0 && mayHaveSlots(kindOf(word), slotsOf(word));
    }

    private static int kindOf(int head) {
        return head / KIND_UNIT;
    }

    private static int slotsOf(int head) {
        return head % KIND_UNIT;
    }

    /** How many of an object's slots hold values: none of a DATA's. */
    private static int valuesOf(int head) {
        return kindOf(head) == DATA ? 0 : slotsOf(head);
    }

    private static boolean isNumber(int value) {
        return (value & 1) != 0;
    }

    /**
     * One heap. Its objects are not kept but found anew by each call that needs them, since any
     * word may be poked at any time.
     */
    private static final class Heap {
        private static final int NOT_A_HEAD = -2, NOT_REACHED = -1;

        private final int[] words = new int[WORDS];
        private final int[] roots = new int[ROOTS];
        private int base = FIRST_BASE;
        private int top;

        /** The words of the objects' heads, as listObjects found them. */
        private final int[] heads = new int[WORDS];
        private int objects;

        /** Of each word NOT_A_HEAD, NOT_REACHED, or the object's number in the order. */
        private final int[] marks = new int[WORDS];

        /** The words of the heads of what can be come to, as findOrder found them. */
        private final int[] order = new int[WORDS];
        private int reached;

        /** Of each head the word where references to it shall go. */
        private final int[] targets = new int[WORDS];

        void empty() {
            Arrays.fill(words, 0);
            Arrays.fill(roots, NONE);
            base = FIRST_BASE;
            top = 0;
        }

        int addressOf(int word) {
            return base + WORD_BYTES * word;
        }

        boolean hasRoomFor(int slots) {
            return top + 1 + slots <= WORDS;
        }

        /** Answers the new object's head; there must be room for it. */
        int append(int kind, int slots) {
            int head = top;
            words[head] = KIND_UNIT * kind + slots;
            for (int i = head + 1; i <= head + slots; i++) {
                words[i] = NONE;
            }
            if (kind == LINK) {
                words[head + LINK_SLOTS] = 1;
            }
            top = head + 1 + slots;
            return head;
        }

        /** Answers the word where the objects end: below the top if no object stands there. */
        int listObjects() {
            Arrays.fill(marks, NOT_A_HEAD);
            objects = 0;
            int word = 0;
            for (int i = 0; i < WORDS && isObject(word); i++) {
                heads[i] = word;
                marks[word] = NOT_REACHED;
                objects = i + 1;
                word += 1 + slotsOf(words[word]);
            }
            return word;
        }

        private boolean isObject(int word) {
            return word < top && isHead(words[word]) && word + 1 + slotsOf(words[word]) <= top;
        }

        /** The word of the listed object at an address, or -1 if there is none. */
        int headOf(int address) {
            // This may wrap round, but then lies far above all words.
            int offset = address - base;
            if (offset < 0 || offset % WORD_BYTES != 0 || offset / WORD_BYTES >= WORDS) {
                return -1;
            }
            int word = offset / WORD_BYTES;
            return marks[word] == NOT_A_HEAD ? -1 : word;
        }

        int firstFault() {
            int end = listObjects();
            if (end < top) {
                return FAULT_UNIT * (isHead(words[end]) ? BEYOND_TOP : NO_HEAD) + end;
            }
            for (int i = 0; i < objects; i++) {
                int fault = faultInObject(heads[i]);
                if (fault != 0) {
                    return fault;
                }
            }
            for (int i = 0; i < ROOTS; i++) {
                if (!isValue(roots[i])) {
                    return FAULT_UNIT * NO_ROOT_VALUE + i;
                }
            }
            return 0;
        }

        private int faultInObject(int head) {
            boolean inLink = kindOf(words[head]) == LINK;
            int values = valuesOf(words[head]);
            for (int slot = 0; slot < values; slot++) {
                int place = head + 1 + slot;
                int fault = inLink ? faultInLink(slot, words[place]) : faultInCell(words[place]);
                if (fault != 0) {
                    return FAULT_UNIT * fault + place;
                }
            }
            return 0;
        }

        private int faultInCell(int value) {
            return isValue(value) ? 0 : NO_VALUE;
        }

        private int faultInLink(int slot, int value) {
            if (!isValue(value)) {
                return NO_VALUE;
            }
            if (slot == 0) {
                return isNumber(value) ? NUMBER_IN_LINK : 0;
            }
            return isNumber(value) ? 0 : NO_NUMBER_IN_LINK;
        }

        private boolean isValue(int word) {
            return word == NONE || isNumber(word) || headOf(word) >= 0;
        }

        /** Finds what can be come to, in the ORDER; the heap must be valid and its objects listed. */
        void findOrder() {
            reached = 0;
            reachAll(roots, 0, ROOTS);
            for (int k = 0; k < reached && k < WORDS; k++) {
                reachAll(words, order[k] + 1, valuesOf(words[order[k]]));
            }
        }

        private void reachAll(int[] row, int from, int count) {
            for (int i = from; i < from + count; i++) {
                int head = headOf(row[i]);
                if (head >= 0 && marks[head] == NOT_REACHED) {
                    marks[head] = reached;
                    order[reached] = head;
                    reached++;
                }
            }
        }

        int moveTo(int newBase) {
            for (int i = 0; i < objects; i++) {
                targets[heads[i]] = heads[i];
            }
            return redirect(newBase);
        }

        /** Answers how many references changed. */
        private int redirect(int newBase) {
            int changed = redirectAll(roots, 0, ROOTS, newBase);
            for (int i = 0; i < objects; i++) {
                int head = heads[i];
                changed += redirectAll(words, head + 1, valuesOf(words[head]), newBase);
            }
            base = newBase;
            return changed;
        }

        private int redirectAll(int[] row, int from, int count, int newBase) {
            int changed = 0;
            for (int i = from; i < from + count; i++) {
                int head = headOf(row[i]);
                int value = head < 0 ? row[i] : newBase + WORD_BYTES * targets[head];
                if (value != row[i]) {
                    row[i] = value;
                    changed++;
                }
            }
            return changed;
        }

        /** Answers how many words are free by it; the heap must be valid and its objects listed. */
        int dropUnreached() {
            findOrder();
            int end = 0;
            for (int i = 0; i < objects; i++) {
                int head = heads[i];
                targets[head] = end;
                if (marks[head] != NOT_REACHED) {
                    end += 1 + slotsOf(words[head]);
                }
            }
            redirect(base);
            slideToTargets();
            for (int i = end; i < WORDS; i++) {
                words[i] = 0;
            }
            int freed = top - end;
            top = end;
            return freed;
        }

        private void slideToTargets() {
            for (int i = 0; i < objects; i++) {
                int head = heads[i];
                if (marks[head] != NOT_REACHED) {
                    System.arraycopy(words, head, words, targets[head], 1 + slotsOf(words[head]));
                }
            }
        }

        /** Writes the IMAGE; the heap must be valid and its objects listed. */
        void writeTo(Bytes out) {
            findOrder();
            out.size = 0;
            out.add(SIGN_FIRST);
            out.add(SIGN_SECOND);
            out.add(SIGN_THIRD);
            out.addCount(reached);
            writeValues(out, roots, 0, ROOTS);
            for (int k = 0; k < reached; k++) {
                writeObject(out, order[k]);
            }
            out.addTwo(out.sumOf(out.size));
        }

        private void writeObject(Bytes out, int head) {
            int kind = kindOf(words[head]);
            int slots = slotsOf(words[head]);
            out.addCount(kind);
            out.addCount(slots);
            if (kind != DATA) {
                writeValues(out, words, head + 1, slots);
                return;
            }
            for (int i = head + 1; i <= head + slots; i++) {
                out.addTwo(words[i]);
                out.addTwo(words[i] >>> 16);
            }
        }

        private void writeValues(Bytes out, int[] row, int from, int count) {
            for (int i = from; i < from + count; i++) {
                out.addCount(countOf(row[i]));
            }
        }

        /** The COUNT that tells a value, which must be a valid one. */
        private long countOf(int value) {
            if (isNumber(value)) {
                long number = value >> 1;
                return number >= 0 ? 4 * number + 1 : 4 * (-1 - number) + 3;
            }
            int head = headOf(value);
            return head < 0 ? 0 : 2L * marks[head] + 2;
        }

        /** Both heaps must be valid and their objects listed. */
        boolean hasSameAs(Heap other) {
            findOrder();
            other.findOrder();
            if (reached != other.reached) {
                return false;
            }
            for (int i = 0; i < ROOTS; i++) {
                if (countOf(roots[i]) != other.countOf(other.roots[i])) {
                    return false;
                }
            }
            for (int k = 0; k < reached; k++) {
                if (!hasSameObject(order[k], other, other.order[k])) {
                    return false;
                }
            }
            return true;
        }

        private boolean hasSameObject(int head, Heap other, int otherHead) {
            if (words[head] != other.words[otherHead]) {
                return false;
            }
            boolean data = kindOf(words[head]) == DATA;
            int slots = slotsOf(words[head]);
            for (int i = 1; i <= slots; i++) {
                int mine = words[head + i];
                int theirs = other.words[otherHead + i];
                if (data ? mine != theirs : countOf(mine) != other.countOf(theirs)) {
                    return false;
                }
            }
            return true;
        }

        /** Makes references of what the reader left in their stead, 2 k + 2 for object k. */
        void resolveReferences() {
            listObjects();
            resolveAll(roots, 0, ROOTS);
            for (int i = 0; i < objects; i++) {
                resolveAll(words, heads[i] + 1, valuesOf(words[heads[i]]));
            }
        }

        private void resolveAll(int[] row, int from, int count) {
            for (int i = from; i < from + count; i++) {
                int value = row[i];
                if (value != NONE && !isNumber(value)) {
                    row[i] = addressOf(heads[value / 2 - 1]);
                }
            }
        }
    }

    /** A row of bytes that grows to a bound. */
    private static final class Bytes {
        private final int[] row = new int[MOST_BYTES];
        private int size;

        /** Leaves a byte out that has no room, as none ever is: an image has at most 1307 bytes. */
        void add(int b) {
            if (size < MOST_BYTES) {
                row[size] = b;
                size++;
            }
        }

        /** The lowest two bytes of a word, lowest first. */
        void addTwo(int word) {
            add(word & 255);
            add((word >>> 8) & 255);
        }

        void addCount(long count) {
            long rest = count;
            for (int i = 1; i < MOST_COUNT_BYTES && rest >= 128; i++) {
                add((int) (rest & 127) + 128);
                rest >>= 7;
            }
            add((int) rest);
        }

        /** The sum of so many first bytes; no more than 2000 of them fit an int without wrapping. */
        int sumOf(int count) {
            int sum = 0;
            for (int i = 0; i < count; i++) {
                sum += row[i] * (i + 1);
            }
            return sum % SUM_REST;
        }
    }

    /** Reads an image. The first place that is not as it should be stays; what is read behind it is void. */
    private static final class Reader {
        private static final int NOWHERE = -1;

        private final Bytes input;
        private int place;
        private int end;
        private int objects;
        private int toldObjects;

        Reader(Bytes input) {
            this.input = input;
        }

        /** Fills an empty heap: how many objects, or -1 less the place where reading ends. */
        int readInto(Heap heap) {
            place = 0;
            end = NOWHERE;
            toldObjects = 0;
            readSign();
            readObjectCount();
            for (int i = 0; i < ROOTS && goesOn(); i++) {
                heap.roots[i] = nextValue(true, true);
            }
            for (int k = 0; k < objects && goesOn(); k++) {
                int head = readHead(heap, k);
                if (head >= 0) {
                    readSlots(heap, head);
                }
            }
            readSum();
            if (place < input.size) {
                endAt(place);
            }
            if (!goesOn()) {
                return -1 - end;
            }
            heap.resolveReferences();
            return objects;
        }

        private boolean goesOn() {
            return end == NOWHERE;
        }

        private void endAt(int where) {
            if (end == NOWHERE) {
                end = where;
            }
        }

        private int nextByte() {
            if (place >= input.size) {
                endAt(input.size);
                return 0;
            }
            int b = input.row[place];
            place++;
            return b;
        }

        private long nextCount() {
            int start = place;
            long count = 0;
            int b = 128;
            // One byte more than a count may have is read, for only then it is looked at.
            for (int i = 0; i <= MOST_COUNT_BYTES && b >= 128; i++) {
                b = nextByte();
                count |= (long) (b & 127) << (7 * i);
            }
            int size = place - start;
            if (size > MOST_COUNT_BYTES || size > 1 && b == 0 || count >= COUNT_LIMIT) {
                endAt(start);
            }
            return count;
        }

        private void readSign() {
            readSignByte(SIGN_FIRST);
            readSignByte(SIGN_SECOND);
            readSignByte(SIGN_THIRD);
        }

        private void readSignByte(int due) {
            int start = place;
            if (nextByte() != due) {
                endAt(start);
            }
        }

        private void readObjectCount() {
            int start = place;
            long count = nextCount();
            if (count > WORDS) {
                endAt(start);
            }
            objects = (int) Math.min(count, WORDS);
        }

        /** Appends object k, its slots yet to be read: its head, or -1 if reading ends. */
        private int readHead(Heap heap, int k) {
            int start = place;
            long kind = nextCount();
            if (kind < CELLS || kind > LINK || k >= toldObjects) {
                endAt(start);
            }
            int slotsStart = place;
            long slots = nextCount();
            if (!mayHaveSlots(kind, slots)) {
                endAt(slotsStart);
            }
            if (goesOn() && !heap.hasRoomFor((int) slots)) {
                endAt(start);
            }
            return goesOn() ? heap.append((int) kind, (int) slots) : -1;
        }

        private void readSlots(Heap heap, int head) {
            int kind = kindOf(heap.words[head]);
            int slots = slotsOf(heap.words[head]);
            for (int slot = 0; slot < slots && goesOn(); slot++) {
                int word = head + 1 + slot;
                if (kind == DATA) {
                    heap.words[word] = nextWord();
                } else {
                    boolean mayRefer = kind != LINK || slot == 0;
                    boolean mayCount = kind != LINK || slot == 1;
                    heap.words[word] = nextValue(mayRefer, mayCount);
                }
            }
        }

        private int nextWord() {
            int word = nextByte();
            word |= nextByte() << 8;
            word |= nextByte() << 16;
            word |= nextByte() << 24;
            return word;
        }

        /** A number, NONE, or 2 k + 2 for object k, whose word is not known before all are read. */
        private int nextValue(boolean mayRefer, boolean mayCount) {
            int start = place;
            long count = nextCount();
            boolean number = (count & 1) != 0;
            boolean stands = number ? mayCount && count < NUMBER_COUNT_LIMIT : mayRefer && tellsObject(count);
            if (!stands) {
                endAt(start);
            }
            if (!goesOn()) {
                return NONE;
            }
            return number ? numberOf(count) : (int) count;
        }

        /** Whether an even count is NONE, or tells an object that it may tell, which is told by it then. */
        private boolean tellsObject(long count) {
            if (count == 0) {
                return true;
            }
            long k = count / 2 - 1;
            if (k > toldObjects || k >= objects) {
                return false;
            }
            if (k == toldObjects) {
                toldObjects++;
            }
            return true;
        }

        private static int numberOf(long count) {
            int size = (int) (count >> 2);
            int number = (count & 3) == 1 ? size : -1 - size;
            return 2 * number + 1;
        }

        private void readSum() {
            int start = place;
            int due = input.sumOf(start);
            int sum = nextByte();
            sum += nextByte() << 8;
            if (sum != due) {
                endAt(start);
            }
        }
    }
}
