import java.util.Random;

/** Rule 7 of LANGUAGE.md: no call throws or fails to end, whatever its numbers and whatever came before it. */
public final class AnyCallTest {
    private static final int OBJECTS = 300;
    /** Far beyond the 512 calls that the document speaks of: later answers are free, but answers they are. */
    private static final int CALLS = 5000;

    private static final int[] NUMBERS = {
        Integer.MIN_VALUE, Integer.MIN_VALUE + 1, -65536, -256, -10, -2, -1, 0, 1, 2, 3, 4, 5, 6, 7, 8, 9, 15, 16,
        63, 64, 99, 100, 127, 128, 255, 256, 1024, 65536, 1 << 24, 1 << 30, Integer.MAX_VALUE - 1, Integer.MAX_VALUE};

    private static final Due due = new Due();

    public static void main(String[] args) {
        for (int seed = 0; seed < OBJECTS; seed++) {
            Random random = new Random(seed);
            FlashTree x = new FlashTree();
            for (int i = 1; i <= CALLS; i++) {
                ends("object " + seed + ", call " + i, x, random);
            }
        }
        due.end();
    }

    private static void ends(String when, FlashTree x, Random random) {
        try {
            call(x, random);
            due.holds(when, true);
        } catch (RuntimeException thrown) {
            due.holds(when + " threw " + thrown, false);
        }
    }

    private static int any(Random random) {
        return random.nextInt(3) == 0 ? NUMBERS[random.nextInt(NUMBERS.length)] : random.nextInt(9);
    }

    private static void call(FlashTree x, Random random) {
        int a = any(random);
        int b = any(random);
        switch (random.nextInt(24)) {
            case 0 -> x.cut(random.nextInt(4) == 0 ? a : 10 + random.nextInt(200));
            case 1 -> x.off();
            case 2 -> x.on();
            case 3 -> x.format();
            case 4, 5, 6 -> x.mount();
            case 7, 8 -> x.make(a, b);
            case 9, 10 -> x.write(a, b, any(random), random.nextLong());
            case 11 -> x.remove(a, b);
            case 12, 13, 14 -> x.rename(a, b, any(random), any(random));
            case 15 -> x.entry(a, b);
            case 16 -> x.kind(a, b);
            case 17 -> x.size(a, b);
            case 18 -> x.data(a, b);
            case 19 -> x.child(a, b);
            case 20 -> x.free();
            case 21 -> x.byteAt(a, b);
            case 22 -> x.wear(a);
            default -> x.units();
        }
    }
}
