import java.util.List;

/** COUNT and RESTORING: each clause that names a place where reading ends, at its edge and just beyond it. */
public final class RestoringEdgeTest {
    private static final long LIMIT = 1L << 33;
    private static final long NUMBERS = 1L << 32;

    public static void main(String[] args) {
        nothingToRead();
        bytesLack();
        firstThree();
        countsOfOneByte();
        lastByteIsNotZero();
        countsBelowTheirLimit();
        sixthByte();
        firstCount();
        valuesThatAreNone();
        linkValues();
        toldOrNext();
        belowTheirNumber();
        kinds();
        kindOfAnObjectNotTold();
        kindNotTheWholeOfWhichIsThere();
        slots();
        slotsOfLinks();
        fits();
        fitsWithEmptyObjects();
        theTwoBytes();
        bytesAreLeft();
        allThatMayBeRead();
        standInTheirOrder();
        dataWords();
        nothingIsLeftOfOneBefore();
        Due.end();
    }

    /** Feeds bytes and restores heap 0, which has something; a refusal must leave it as it was. */
    private static void ends(String what, ImageBytes bytes, int due) {
        HeapImages x = new HeapImages();
        x.root(0, 3, x.make(0, HeapImages.LINK, 2));
        List<Integer> before = State.of(x);
        bytes.feedTo(x);
        Due.is(what, x.restore(0, 400), due);
        if (due < 0) {
            Due.isTrue(what + " leaves the heap", before.equals(State.of(x)));
        } else {
            Due.is(what + " has the base", x.told(0, 0), 400);
            Due.is(what + " has the objects", x.told(0, 3), due);
            Due.is(what + " is valid", x.check(0), 0);
        }
        Due.is(what + " takes all that was to be read", x.restore(1, 8), -1);
    }

    /** Bytes that end at a place. */
    private static void refused(String what, ImageBytes bytes, int place) {
        ends(what, bytes, -1 - place);
    }

    /** One object, told by root 0: its kind is at place 8. */
    private static ImageBytes one() {
        return ImageBytes.begun().counts(1, 2, 0, 0, 0);
    }

    private static ImageBytes copyOf(ImageBytes from, int size) {
        ImageBytes copy = new ImageBytes();
        copy.bytes.addAll(from.bytes.subList(0, size));
        return copy;
    }

    private static void nothingToRead() {
        Due.sentence("bytes lack (the place behind the last one)");
        refused("no byte at all", new ImageBytes(), 0);
        refused("one byte", new ImageBytes().raw(72), 1);
        refused("the first three", ImageBytes.begun(), 3);
    }

    private static void bytesLack() {
        Due.sentence("bytes lack (the place behind the last one)");
        ImageBytes whole = ImageBytes.begun().counts(3, 2, 5 + 4 * 5000, 4, 0).counts(1, 2, 6, NUMBERS - 1)
            .counts(2, 3).data(1, -1, 70000).counts(3, 2, 2, 1001).summed();
        for (int size = 0; size < whole.size(); size++) {
            refused("the first " + size, copyOf(whole, size), size);
        }
        ends("all of them", whole, 3);
    }

    private static void firstThree() {
        Due.sentence("one of the first three is another");
        int[] sign = {72, 73, 1};
        for (int i = 0; i < 3; i++) {
            for (int b : new int[] {0, 255, sign[i] - 1, sign[i] + 1, sign[i] + 128}) {
                ImageBytes bytes = ImageBytes.begun().counts(0, 0, 0, 0, 0);
                bytes.bytes.set(i, b);
                refused("byte " + i + " is " + b, bytes.summed(), i);
                refused("byte " + i + " is " + b + ", the last one", copyOf(bytes, i + 1), i);
            }
        }
    }

    private static void countsOfOneByte() {
        Due.sentence("A COUNT has seven bits a byte, lowest first, 128 more in all but its last one");
        ends("0 and 127", ImageBytes.begun().counts(0).raw(0, 127, 1, 3).summed(), 0);
        ends("two bytes", ImageBytes.begun().counts(0).raw(0, 129, 1, 0, 0).summed(), 0);
        ends("five bytes", ImageBytes.begun().counts(0).raw(255, 255, 255, 255, 15, 0, 0, 0).summed(), 0);
        HeapImages x = new HeapImages();
        ImageBytes.begun().counts(0).raw(127, 129, 1, 129, 128, 1, 255, 255, 255, 255, 15).summed().feedTo(x);
        x.restore(0, 4);
        int[] due = {2 * -32 + 1, 2 * 32 + 1, 2 * 4096 + 1, Integer.MIN_VALUE + 1};
        for (int r = 0; r < 4; r++) {
            Due.is("root " + r, State.rootOf(x, 0, r), due[r]);
        }
    }

    private static void lastByteIsNotZero() {
        Due.sentence("its last one, which is not 0 unless it is the only one");
        int[][] none = {{128, 0}, {129, 0}, {129, 128, 0}, {129, 128, 128, 0}, {129, 128, 128, 128, 0}};
        for (int[] count : none) {
            refused("as a root, " + count.length, ImageBytes.begun().counts(0).raw(count).counts(0, 0, 0).summed(), 4);
            refused("as the last root", ImageBytes.begun().counts(0, 0, 0, 0).raw(count).summed(), 7);
            refused("at the very end", ImageBytes.begun().counts(0, 0, 0, 0).raw(count), 7);
        }
        refused("of objects", ImageBytes.begun().raw(128, 0).counts(0, 0, 0, 0).summed(), 3);
        refused("of a kind", one().raw(129, 0).counts(0).summed(), 8);
        refused("of slots", one().counts(1).raw(128, 0).summed(), 9);
    }

    private static void countsBelowTheirLimit() {
        Due.sentence("it is below 2^33; a count is none (where it begins)");
        int[][] above = {{129, 128, 128, 128, 32}, {129, 128, 128, 128, 127}, {255, 255, 255, 255, 32}};
        for (int[] count : above) {
            refused("as a root", ImageBytes.begun().counts(0, 0).raw(count).counts(0, 0).summed(), 5);
            refused("as a value, the last byte", one().counts(1, 2, 0).raw(count), 11);
        }
        refused("2^33 - 1 objects", ImageBytes.begun().counts(LIMIT - 1, 0, 0, 0, 0).summed(), 3);
        refused("2^33 objects", ImageBytes.begun().counts(LIMIT, 0, 0, 0, 0).summed(), 3);
    }

    private static void sixthByte() {
        Due.sentence("looked at when its last byte is there, or a sixth one");
        int[] five = {255, 255, 255, 255, 255};
        refused("five bytes and no last one", one().counts(1, 1).raw(five), 15);
        for (int b : new int[] {0, 1, 127, 128, 255}) {
            refused("a sixth one, " + b, one().counts(1, 1).raw(five).raw(b), 10);
            refused("low bits and a sixth one, " + b, one().counts(1, 1).raw(129, 128, 128, 128, 128, b), 10);
        }
        refused("four bytes of one that is none", one().counts(1, 1).raw(128, 128, 128, 128), 14);
        refused("as the first count", ImageBytes.begun().raw(five), 8);
        refused("as the first count, six", ImageBytes.begun().raw(five).raw(0), 3);
    }

    private static void firstCount() {
        Due.sentence("the first count is above 256");
        refused("257, and bytes lack", ImageBytes.begun().counts(257), 3);
        refused("257", ImageBytes.begun().counts(257, 2, 0, 0, 0).summed(), 3);
        refused("2^32", ImageBytes.begun().counts(NUMBERS, 0, 0, 0, 0).summed(), 3);
        refused("2^32 + 1", ImageBytes.begun().counts(NUMBERS + 1, 2, 0, 0, 0).counts(1, 0).summed(), 3);
        refused("256, and bytes lack", ImageBytes.begun().counts(256), 5);
        refused("256, and the second is not told", ImageBytes.begun().counts(256, 2, 0, 0, 0).counts(1, 0, 1), 11);
        ends("0", ImageBytes.begun().counts(0, 1, 0, 0, 0).summed(), 0);
    }

    private static void valuesThatAreNone() {
        Due.sentence("a value is none that may stand there (numbers are below 2^32)");
        for (long good : new long[] {0, 1, 3, NUMBERS - 3, NUMBERS - 1}) {
            ends("root " + good, ImageBytes.begun().counts(0, 0, 0, 0, good).summed(), 0);
            ends("cell " + good, one().counts(1, 1, good).summed(), 1);
        }
        for (long none : new long[] {NUMBERS + 1, NUMBERS + 3, LIMIT - 3, LIMIT - 1}) {
            refused("root " + none, ImageBytes.begun().counts(0, 0, 0, 0, none).summed(), 7);
            refused("cell " + none, one().counts(1, 1, none).summed(), 10);
            refused("link " + none, one().counts(3, 2, 0, none).summed(), 11);
        }
        for (long none : new long[] {2, 4, NUMBERS - 2, NUMBERS, NUMBERS + 2, LIMIT - 2}) {
            refused("root " + none, ImageBytes.begun().counts(0, 0, 0, 0, none).summed(), 7);
        }
    }

    private static void linkValues() {
        Due.sentence("a value is none that may stand there (a LINK's)");
        ends("NONE and a number", one().counts(3, 2, 0, 3).summed(), 1);
        ends("a reference and a number", one().counts(3, 2, 2, 1).summed(), 1);
        refused("a number first", one().counts(3, 2, 1, 1).summed(), 10);
        refused("a number below 0 first", one().counts(3, 2, 3, 1), 10);
        refused("NONE second", one().counts(3, 2, 0, 0).summed(), 11);
        refused("a reference second", one().counts(3, 2, 0, 2).summed(), 11);
        refused("the next object second", ImageBytes.begun().counts(2, 2, 0, 0, 0).counts(3, 2, 0, 4), 11);
    }

    private static void toldOrNext() {
        Due.sentence("or tells an object that is neither one that was told nor the next one");
        ends("the next one", ImageBytes.begun().counts(2, 2, 4, 0, 0).counts(1, 0, 1, 0).summed(), 2);
        ends("one that was told", ImageBytes.begun().counts(2, 2, 2, 4, 2).counts(1, 0, 1, 1, 4).summed(), 2);
        refused("the first is object 1", ImageBytes.begun().counts(2, 4, 2, 0, 0).counts(1, 0, 1, 0).summed(), 4);
        refused("2 after 0", ImageBytes.begun().counts(3, 2, 6, 4, 0).counts(1, 0, 1, 0, 1, 0).summed(), 5);
        refused("2 after 0 in cells", ImageBytes.begun().counts(3, 2, 0, 0, 0).counts(1, 2, 6, 4), 10);
        refused("2 after 0 in a link", ImageBytes.begun().counts(3, 2, 0, 0, 0).counts(3, 2, 6, 1), 10);
    }

    private static void belowTheirNumber() {
        Due.sentence("or not below their number");
        refused("0 of none", ImageBytes.begun().counts(0, 2, 0, 0, 0).summed(), 4);
        refused("1 of one, the next", one().counts(1, 1, 4).summed(), 10);
        refused("1 of one in a root", ImageBytes.begun().counts(1, 2, 4, 0, 0).counts(1, 0).summed(), 5);
        refused("1 of one in a link", one().counts(3, 2, 4, 1).summed(), 10);
        ends("1 of two", ImageBytes.begun().counts(2, 2, 4, 0, 0).counts(1, 0, 1, 0).summed(), 2);
    }

    private static void kinds() {
        Due.sentence("a kind is not 1 .. 3");
        ends("kind 1", one().counts(1, 2, 0, 1).summed(), 1);
        ends("kind 2", one().counts(2, 1).raw(0, 0, 0, 0).summed(), 1);
        ends("kind 3", one().counts(3, 2, 0, 1).summed(), 1);
        for (long kind : new long[] {0, 4, 5, 64, 127, 128, 129, NUMBERS, NUMBERS + 1, NUMBERS + 3, LIMIT - 1}) {
            refused("kind " + kind, one().counts(kind, 2, 0, 1).summed(), 8);
            refused("kind " + kind + ", the last byte", one().counts(kind), 8);
        }
    }

    private static void kindOfAnObjectNotTold() {
        Due.sentence("or that of an object that was not told yet");
        refused("object 0", ImageBytes.begun().counts(1, 0, 1, 3, 0).counts(1, 0).summed(), 8);
        refused("object 1", ImageBytes.begun().counts(2, 2, 0, 0, 0).counts(1, 0, 1, 0).summed(), 10);
        refused("object 1 would tell itself", ImageBytes.begun().counts(2, 2, 0, 0, 0).counts(1, 0, 1, 1, 4), 10);
        refused("data does not tell", ImageBytes.begun().counts(2, 2, 0, 0, 0).counts(2, 1).data(4).counts(1, 0), 14);
        ends("object 0 tells 1", ImageBytes.begun().counts(2, 2, 0, 0, 0).counts(1, 1, 4, 1, 0).summed(), 2);
        ends("told by the last slot", ImageBytes.begun().counts(2, 0, 0, 0, 2).counts(1, 2, 0, 4, 1, 0).summed(), 2);
    }

    private static void kindNotTheWholeOfWhichIsThere() {
        Due.sentence("RESTORING reads an image, byte by byte or count by count [a kind is a count, too]");
        ImageBytes notTold = ImageBytes.begun().counts(1, 0, 0, 0, 0);
        refused("nothing of the kind", notTold, 8);
        refused("its first byte alone", notTold.raw(129), 9);
        refused("two bytes", notTold.raw(128), 10);
        refused("the last one is 0", notTold.raw(0), 8);
        refused("of an object that was told", one().raw(255), 9);
        refused("its last byte is there, too", one().raw(255, 1), 8);
    }

    private static void slots() {
        Due.sentence("an n is none for its kind");
        for (int kind = 1; kind <= 2; kind++) {
            int bytes = kind == 1 ? 1 : 4;
            ends("0 of kind " + kind, one().counts(kind, 0).summed(), 1);
            ends("40 of kind " + kind, one().counts(kind, 40).raw(new int[40 * bytes]).summed(), 1);
            refused("41 of kind " + kind, one().counts(kind, 41).raw(new int[41 * bytes]).summed(), 9);
            refused("41 of kind " + kind + ", the last byte", one().counts(kind, 41), 9);
            for (long n : new long[] {64, 127, 128, NUMBERS, NUMBERS + 2, LIMIT - 1}) {
                refused(n + " of kind " + kind, one().counts(kind, n, 0).summed(), 9);
            }
        }
    }

    private static void slotsOfLinks() {
        Due.sentence("an n is none for its kind (a LINK's is 2)");
        ends("2", one().counts(3, 2, 0, 1).summed(), 1);
        for (long n : new long[] {0, 1, 3, 40, 41, 130, NUMBERS + 2}) {
            refused(n + " of a link", one().counts(3, n, 0, 1).summed(), 9);
        }
    }

    /** Object 0 with 40 cells tells all others; objects 1 to 5 are full, too: 246 words. */
    private static ImageBytes sixFullOnes(int objects) {
        ImageBytes bytes = ImageBytes.begun().counts(objects, 2, 0, 0, 0).counts(1, 40);
        for (int i = 1; i <= 40; i++) {
            bytes.counts(i < objects ? 2 * i + 2 : 0);
        }
        for (int k = 1; k < 6; k++) {
            bytes.counts(1, 40).raw(new int[40]);
        }
        return bytes;
    }

    private static void fits() {
        Due.sentence("with it the object would not fit behind the others (where its kind is)");
        int kindAt = sixFullOnes(7).size();
        ends("to word 255", sixFullOnes(7).counts(1, 9).raw(new int[9]).summed(), 7);
        refused("one too many", sixFullOnes(7).counts(1, 10).raw(new int[10]).summed(), kindAt);
        refused("one too many, n the last byte", sixFullOnes(7).counts(1, 10), kindAt);
        refused("the n lacks", sixFullOnes(7).counts(1), kindAt + 1);
        ends("data to word 255", sixFullOnes(7).counts(2, 9).raw(new int[36]).summed(), 7);
        refused("data one too many", sixFullOnes(7).counts(2, 10).raw(new int[40]).summed(), kindAt);
        refused("40", sixFullOnes(7).counts(2, 40).raw(new int[160]).summed(), kindAt);
        refused("41 is none for its kind", sixFullOnes(7).counts(2, 41).summed(), kindAt + 1);
    }

    private static void fitsWithEmptyObjects() {
        Due.sentence("with it the object would not fit behind the others (where its kind is)");
        ImageBytes full = sixFullOnes(8).counts(1, 9).raw(new int[9]);
        int kindAt = full.size();
        refused("a head alone behind word 255", full.counts(1, 0).summed(), kindAt);
        ImageBytes link = sixFullOnes(8).counts(1, 6).raw(new int[6]);
        int linkAt = link.size();
        ends("a link to word 255", copyOf(link, linkAt).counts(3, 2, 0, 1).summed(), 8);
        link = sixFullOnes(8).counts(1, 7).raw(new int[7]);
        refused("a link beyond", link.counts(3, 2, 0, 1).summed(), linkAt + 1);
    }

    private static void theTwoBytes() {
        Due.sentence("the two bytes are other ones (at the first of them)");
        ImageBytes whole = one().counts(2, 1).data(-1).summed();
        int at = whole.size() - 2;
        ends("the right ones", whole, 1);
        for (int i = 0; i < 2; i++) {
            for (int bit = 0; bit < 8; bit++) {
                ImageBytes other = copyOf(whole, whole.size());
                other.bytes.set(at + i, other.bytes.get(at + i) ^ 1 << bit);
                refused("bit " + bit + " of " + i, other, at);
                refused("bit " + bit + " of " + i + ", and bytes are left", other.raw(0), at);
            }
        }
        ImageBytes turned = copyOf(whole, at).raw(whole.bytes.get(at + 1), whole.bytes.get(at));
        refused("highest first", turned, at);
        refused("one of them is not there", copyOf(whole, at + 1), at + 1);
        refused("another one alone", copyOf(whole, at).raw(whole.bytes.get(at) ^ 1), at + 1);
    }

    private static void bytesAreLeft() {
        Due.sentence("bytes are left (at the first one)");
        ImageBytes whole = ImageBytes.begun().counts(0, 0, 0, 0, 0).summed();
        for (int more = 1; more <= 3; more++) {
            refused(more + " more", copyOf(whole, 10).raw(new int[more]), 10);
        }
        ImageBytes twice = copyOf(whole, 10);
        twice.bytes.addAll(whole.bytes);
        refused("a second image", twice, 10);
        ends("none are left", whole, 0);
    }

    private static void allThatMayBeRead() {
        Due.sentence("bytes are left (at the first one), of 2000 that are to be read");
        ImageBytes whole = ImageBytes.begun().counts(0, 0, 0, 0, 0).summed();
        refused("1990 more", copyOf(whole, 10).raw(new int[1990]), 10);
    }

    private static void standInTheirOrder() {
        Due.sentence("Objects stand in their order from word 0");
        for (int base : new int[] {4, 1000000}) {
            HeapImages x = new HeapImages();
            ImageBytes.begun().counts(3, 0, 2, 4, 0).counts(1, 1, 6).counts(3, 2, 2, 7).counts(2, 1).data(9)
                .summed().feedTo(x);
            Due.is("restore", x.restore(1, base), 3);
            int[] due = {65, base + 20, 194, base, -3, 129, 9, 0};
            for (int w = 0; w < due.length; w++) {
                Due.is("word " + w, x.word(1, w), due[w]);
            }
            Due.is("root 1", State.rootOf(x, 1, 1), base);
            Due.is("root 2", State.rootOf(x, 1, 2), base + 8);
            Due.is("top", x.told(1, 1), 7);
        }
    }

    private static void dataWords() {
        Due.sentence("of DATA four bytes each word, lowest first");
        int[] words = {0, 1, 255, 256, 65535, 65536, 1 << 24, 0x04030201, Integer.MAX_VALUE, Integer.MIN_VALUE, -1};
        HeapImages x = new HeapImages();
        one().counts(2, words.length).data(words).summed().feedTo(x);
        Due.is("restore", x.restore(0, 4), 1);
        for (int i = 0; i < words.length; i++) {
            Due.is("word " + words[i], x.at(0, 4, i), words[i]);
        }
    }

    private static void nothingIsLeftOfOneBefore() {
        Due.sentence("tells an object that is neither one that was told nor the next one (by this image)");
        HeapImages x = new HeapImages();
        ImageBytes.begun().counts(2, 2, 4, 0, 0).counts(1, 1, 9, 1, 0).summed().feedTo(x);
        Due.is("two that are told", x.restore(0, 4), 2);
        ImageBytes.begun().counts(2, 4, 2, 0, 0).counts(1, 0, 1, 0).summed().feedTo(x);
        Due.is("the second one before the first", x.restore(1, 8), -5);
        one().counts(1, 1, 13).summed().feedTo(x);
        Due.is("one into the other heap", x.restore(1, 8), 1);
        x.set(1, 8, 0, 5);
        ImageBytes.begun().counts(0, 0, 0, 0, 0).counts(9).feedTo(x);
        Due.is("a refusal", x.restore(0, 8), -10);
        Due.is("heap 0 has its own", x.at(0, 4, 0), 5);
        Due.is("heap 1 has its own", x.at(1, 8, 0), 5);
        x.set(0, 4, 0, 7);
        Due.is("heap 1 still has its own", x.at(1, 8, 0), 5);
    }
}
