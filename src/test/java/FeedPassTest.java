/** Promises 13 (feed) and 14 (pass). */
public final class FeedPassTest {
    public static void main(String[] args) {
        feed();
        pass();
        parts();
        refuses();
        full();
        Due.end();
    }

    private static void feed() {
        HeapImages x = new HeapImages();
        for (int i = 0; i < 256; i++) {
            Due.is("feed(" + i + ")", x.feed(i), i + 1);
        }
        for (int b : new int[] {-1, 256, Integer.MIN_VALUE, Integer.MAX_VALUE}) {
            Due.noArgument("feed(" + b + ")", () -> x.feed(b));
        }
        Due.is("feed after refusals", x.feed(0), 257);
        x.restore(0, 4);
        Due.is("feed after restore", x.feed(0), 1);
        Due.noIndex("what is fed is no image", () -> x.byteAt(0));
    }

    private static void pass() {
        HeapImages x = new HeapImages();
        x.root(0, 0, 3);
        Due.is("dump", x.dump(0), 10);
        Due.is("pass of all", x.pass(0, 10), 10);
        Due.is("they come behind", x.feed(1), 11);
        Due.is("pass of none", x.pass(3, 0), 0);
        Due.is("pass of more than there are", x.pass(4, 7), 6);
        Due.is("pass of very many", x.pass(9, Integer.MAX_VALUE), 1);
        Due.is("pass of one", x.pass(9, 1), 1);
        Due.is("feed tells all", x.feed(1), 20);
    }

    private static void parts() {
        HeapImages x = new HeapImages();
        x.root(0, 2, 77);
        int size = x.dump(0);
        for (int cut = 1; cut < size; cut++) {
            Due.is("first part", x.pass(0, cut), cut);
            Due.is("second part", x.pass(cut, size), size - cut);
            Due.is("restore of both", x.restore(1, 4), 0);
            Due.is("its root", State.rootOf(x, 1, 2), 77);
            x.root(1, 2, 0);
        }
        x.pass(0, 4);
        x.feed(5);
        x.pass(5, 2);
        Due.is("fed between: another value, so another sum", x.restore(1, 4), -8);
    }

    private static void refuses() {
        HeapImages x = new HeapImages();
        Due.noIndex("pass of no image", () -> x.pass(0, 1));
        Due.noIndex("pass of no image with n below 0", () -> x.pass(0, -1));
        x.dump(0);
        for (int i : new int[] {-1, 10, 11, Integer.MIN_VALUE, Integer.MAX_VALUE}) {
            Due.noIndex("pass from " + i, () -> x.pass(i, 1));
            Due.noIndex("pass of none from " + i, () -> x.pass(i, 0));
            Due.noIndex("pass of -1 from " + i, () -> x.pass(i, -1));
        }
        for (int n : new int[] {-1, -2, Integer.MIN_VALUE}) {
            Due.noArgument("pass of " + n, () -> x.pass(0, n));
        }
        Due.is("nothing came", x.feed(1), 1);
    }

    private static void full() {
        HeapImages x = new HeapImages();
        Due.is("dump", x.dump(0), 10);
        for (int i = 1; i < 200; i++) {
            Due.is("pass", x.pass(0, 10), 10);
        }
        Due.is("feed", x.feed(0), 1991);
        Due.noOperation("ten are one too many", () -> x.pass(0, 10));
        Due.noOperation("as many as there are counts", () -> x.pass(0, 2000));
        Due.noArgument("an argument comes first", () -> x.pass(0, -1));
        Due.noIndex("an index comes first", () -> x.pass(10, 10));
        Due.is("nothing came", x.feed(0), 1992);
        Due.is("eight fit", x.pass(2, 2000), 8);
        Due.noOperation("feed beyond", () -> x.feed(0));
        Due.noArgument("a byte that is none comes first", () -> x.feed(256));
        Due.noOperation("pass beyond", () -> x.pass(9, 1));
        Due.is("pass of none", x.pass(0, 0), 0);
        Due.is("restore ends behind the first image", x.restore(1, 8), -11);
        Due.is("all is gone", x.feed(0), 1);
    }
}
