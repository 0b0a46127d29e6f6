import java.util.ArrayList;
import java.util.List;

/** Bytes written by hand, as a test wants them, right or wrong. */
final class ImageBytes {
    final List<Integer> bytes = new ArrayList<>();

    static ImageBytes begun() {
        return new ImageBytes().raw(72, 73, 1);
    }

    ImageBytes raw(int... more) {
        for (int b : more) {
            bytes.add(b);
        }
        return this;
    }

    ImageBytes counts(long... counts) {
        for (long count : counts) {
            long rest = count;
            while (rest > 127) {
                bytes.add((int) (rest % 128) + 128);
                rest /= 128;
            }
            bytes.add((int) rest);
        }
        return this;
    }

    ImageBytes data(int... words) {
        for (int word : words) {
            long rest = word & 0xFFFFFFFFL;
            for (int i = 0; i < 4; i++) {
                bytes.add((int) (rest % 256));
                rest /= 256;
            }
        }
        return this;
    }

    ImageBytes summed() {
        long sum = 0;
        for (int i = 0; i < bytes.size(); i++) {
            sum += (long) bytes.get(i) * (i + 1);
        }
        int rest = (int) (sum % 65521);
        return raw(rest % 256, rest / 256);
    }

    int size() {
        return bytes.size();
    }

    void feedTo(HeapImages x) {
        feedTo(x, bytes);
    }

    static void feedTo(HeapImages x, List<Integer> bytes) {
        for (int b : bytes) {
            x.feed(b);
        }
    }
}
