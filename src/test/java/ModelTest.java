import java.util.ArrayList;
import java.util.List;
import java.util.Random;

/** All promises: long runs of drawn calls, each answered by the program and by the model. */
public final class ModelTest {
    private static final int RUNS = 4000;
    private static final int CALLS = 512;

    private static int restored = 0;
    private static int refused = 0;
    private static int sames = 0;

    private final Random random;
    private final HeapImages x = new HeapImages();
    private final Model model = new Model();
    /** How far a run strays from what is right: 0 hardly ever. */
    private final int wildness;
    private long last = 0;

    private ModelTest(int seed) {
        random = new Random(seed);
        wildness = seed % 4;
    }

    public static void main(String[] args) {
        for (int seed = 0; seed < RUNS; seed++) {
            ModelTest run = new ModelTest(seed);
            int left = CALLS;
            while (left > 0) {
                left -= run.someCalls();
            }
            run.compareAll(seed);
        }
        reachedEnough();
        Due.end();
    }

    /** The runs must not pass by what they are for. */
    private static void reachedEnough() {
        System.out.println(restored + " restored, " + refused + " refused, " + sames + " same");
        Due.isTrue("restored " + restored, restored > 10000);
        Due.isTrue("refused " + refused, refused > 10000);
        Due.isTrue("same " + sames, sames > 5000);
    }

    private void compareAll(int seed) {
        List<Integer> due = new ArrayList<>();
        for (Model.Heap h : model.heaps) {
            due.add(h.base);
            due.add(h.top);
            for (int root : h.roots) {
                due.add(root);
            }
            for (int word : h.words) {
                due.add(word);
            }
        }
        due.addAll(model.image);
        Due.isTrue("state at the end of run " + seed, State.of(x).equals(due));
    }

    /** Answers how many calls were made. */
    private int someCalls() {
        int h = heap();
        switch (random.nextInt(22)) {
            case 0: case 1: case 2:
                return make(h);
            case 3: case 4: case 5: case 6:
                return set(h, address(h), slot(), value(h));
            case 7: {
                int address = address(h);
                int slot = slot();
                return both("at(" + h + ", " + address + ", " + slot + ")",
                    () -> x.at(h, address, slot), () -> model.at(h, address, slot));
            }
            case 8: case 9:
                return root(h);
            case 10:
                return poke(h);
            case 11: {
                int w = odd(9) ? random.nextInt() : random.nextInt(258) - 1;
                return both("word(" + h + ", " + w + ")", () -> x.word(h, w), () -> model.word(h, w));
            }
            case 12:
                return both("check(" + h + ")", () -> x.check(h), () -> model.check(h));
            case 13: {
                int base = base();
                return both("move(" + h + ", " + base + ")", () -> x.move(h, base), () -> model.move(h, base));
            }
            case 14:
                return odd(3) ? both("sweep(" + h + ")", () -> x.sweep(h), () -> model.sweep(h)) : 0;
            case 15:
                return both("dump(" + h + ")", () -> x.dump(h), () -> model.dump(h));
            case 16: {
                int i = random.nextInt(80) - 1;
                return both("byteAt(" + i + ")", () -> x.byteAt(i), () -> model.byteAt(i));
            }
            case 17:
                return pass(random.nextInt(60) - 1, random.nextInt(60) - 1);
            case 18: case 19:
                return copy(h);
            case 20:
                return both("same()", () -> x.same() ? 1 : 0, () -> model.same() ? 1 : 0);
            default: {
                if (odd(60)) {
                    x.clear();
                    model.clear();
                    return 1;
                }
                int what = odd(9) ? random.nextInt(8) - 2 : random.nextInt(4);
                return both("told(" + h + ", " + what + ")", () -> x.told(h, what), () -> model.told(h, what));
            }
        }
    }

    private boolean odd(int n) {
        return random.nextInt(n) == 0;
    }

    private boolean wild() {
        return random.nextInt(400) < 1 + wildness * wildness * 5;
    }

    private int heap() {
        return odd(100) ? random.nextInt(5) - 2 : random.nextInt(2);
    }

    private int base() {
        int[] some = {4, 8, 12, 400, 4096, 4100, 999996, 1000000, 0, 6, 1000004, -4};
        return some[random.nextInt(odd(4) ? some.length : 8)];
    }

    private int address(int h) {
        List<Integer> all = new ArrayList<>();
        if (h == 0 || h == 1) {
            all.addAll(model.heaps[h].objects().keySet());
        }
        if (all.isEmpty() || odd(30)) {
            return odd(2) ? random.nextInt() : 4096 + 2 * random.nextInt(600);
        }
        return all.get(random.nextInt(all.size()));
    }

    private int slot() {
        return odd(20) ? random.nextInt() : random.nextInt(4) - (odd(10) ? 1 : 0);
    }

    private int number() {
        int[] some = {1, -1, 3, 255, -255, Integer.MAX_VALUE, Integer.MIN_VALUE + 1};
        return odd(3) ? random.nextInt() | 1 : some[random.nextInt(some.length)];
    }

    private int value(int h) {
        if (wild()) {
            return odd(2) ? random.nextInt() : address(h) + 4;
        }
        return odd(3) ? number() : odd(6) ? 0 : address(h);
    }

    private int make(int h) {
        int kind = odd(20) ? random.nextInt(6) - 1 : 1 + random.nextInt(3);
        int n = odd(20) ? random.nextInt(50) - 3 : kind == 3 ? 2 : random.nextInt(odd(10) ? 41 : 5);
        return both("make(" + h + ", " + kind + ", " + n + ")",
            () -> x.make(h, kind, n), () -> model.make(h, kind, n));
    }

    /** Keeps links in order unless the run is wild, for most calls want a valid heap. */
    private int set(int h, int address, int slot, int value) {
        int fit = value;
        Integer w = h == 0 || h == 1 ? model.heaps[h].objects().get(address) : null;
        if (w != null && model.heaps[h].words[w] == 194 && !wild()) {
            fit = slot == 0 ? (value % 2 == 0 ? value : 0) : number();
        }
        int word = fit;
        return both("set(" + h + ", " + address + ", " + slot + ", " + word + ")",
            () -> x.set(h, address, slot, word), () -> model.set(h, address, slot, word));
    }

    private int root(int h) {
        int r = odd(30) ? random.nextInt(10) - 4 : random.nextInt(4);
        int value = value(h);
        return both("root(" + h + ", " + r + ", " + value + ")",
            () -> x.root(h, r, value), () -> model.root(h, r, value));
    }

    /** Mostly behind the tops, and often taken back at once, so that heaps do not stay broken. */
    private int poke(int h) {
        int top = h == 0 || h == 1 ? model.heaps[h].top : 0;
        boolean inside = wild() || odd(4);
        int w = inside ? random.nextInt(top + 1) : random.nextInt(256 - Math.min(top, 250)) + top;
        int mask = odd(2) ? 1 << random.nextInt(32) : random.nextInt();
        int made = both("poke(" + h + ", " + w + ", " + mask + ")",
            () -> x.poke(h, w, mask), () -> model.poke(h, w, mask));
        if (!inside || wild()) {
            return made;
        }
        made += both("check(" + h + ") poked", () -> x.check(h), () -> model.check(h));
        made += both("told(" + h + ", 3) poked", () -> x.told(h, 3), () -> model.told(h, 3));
        return made + both("poke back", () -> x.poke(h, w, mask), () -> model.poke(h, w, mask));
    }

    private int pass(int i, int n) {
        return both("pass(" + i + ", " + n + ")", () -> x.pass(i, n), () -> model.pass(i, n));
    }

    private int feed(int b) {
        return both("feed(" + b + ")", () -> x.feed(b), () -> model.feed(b));
    }

    private int restore(int h, int base) {
        int made = both("restore(" + h + ", " + base + ")", () -> x.restore(h, base), () -> model.restore(h, base));
        if (last >= 0) {
            restored++;
        } else {
            refused++;
        }
        return made;
    }

    /** Dumps one heap, and restores the other from its image, now and then with a byte changed. */
    private int copy(int h) {
        // What is left to be read from before would only be refused at its sign.
        int made = model.input.isEmpty() ? 0 : restore(random.nextInt(2), 8);
        made += both("dump(" + h + ")", () -> x.dump(h), () -> model.dump(h));
        int size = model.image.size();
        if (size == 0) {
            return made;
        }
        int cut = random.nextInt(size);
        switch (random.nextInt(6)) {
            case 0:
                made += pass(0, cut) + feed(random.nextInt(256)) + pass(cut, 2000);
                break;
            case 1:
                made += pass(0, cut) + feed(random.nextInt(256)) + mended(cut + 1);
                break;
            case 2:
                made += pass(0, cut);
                break;
            default:
                made += pass(0, 2000);
        }
        made += restore(1 - h, base());
        made += both("same()", () -> x.same() ? 1 : 0, () -> model.same() ? 1 : 0);
        if (last == 1) {
            sames++;
        }
        return made;
    }

    /** Passes the rest, and a sum that fits, so that a change is not refused for the sum alone. */
    private int mended(int from) {
        int made = from < model.image.size() - 2 ? pass(from, model.image.size() - 2 - from) : 0;
        ImageBytes bytes = new ImageBytes();
        bytes.bytes.addAll(model.input);
        List<Integer> summed = bytes.summed().bytes;
        return made + feed(summed.get(summed.size() - 2)) + feed(summed.get(summed.size() - 1));
    }

    private int both(String what, Due.Call program, Due.Call due) {
        String got = outcome(program);
        String want = outcome(due);
        if (!got.equals(want)) {
            Due.is(what + " " + got + " for " + want, 0, 1);
        }
        last = want.startsWith("=") ? Long.parseLong(want.substring(1)) : -1;
        return 1;
    }

    private static String outcome(Due.Call one) {
        try {
            return "=" + one.answer();
        } catch (RuntimeException e) {
            return e.getClass().getSimpleName();
        }
    }
}
