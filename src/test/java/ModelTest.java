import java.util.Random;

/** Runs of many calls, drawn from fixed seeds, on the class and on the model beside it. */
public final class ModelTest {
    private static final int RUNS = 4000;
    private static final int CALLS = 360;
    private static final int MOST_CALLS = 512;

    private static final int[] WRONG_FOLDERS = {-2, -1, 8, 9, 16, Integer.MIN_VALUE, Integer.MAX_VALUE};
    private static final int[] ODD_NAMES = {-1, 0, 1, 99, 100, 255, 256, Integer.MIN_VALUE, Integer.MAX_VALUE};

    private static final Due due = new Due();

    public static void main(String[] args) {
        for (int seed = 0; seed < RUNS && due.wrong() < 20; seed++) {
            new ModelTest(seed).run();
        }
        due.end();
    }

    private final int seed;
    private final Random random;
    private final FlashTree x = new FlashTree();
    private final Model m = new Model();
    private final int names;
    private final int cutOdds;
    private int calls = 0;

    private ModelTest(int seed) {
        this.seed = seed;
        random = new Random(seed);
        names = 3 + random.nextInt(4);
        cutOdds = new int[] {4, 12, 40, 1000}[seed % 4];
    }

    private void run() {
        int before = due.wrong();
        if (random.nextInt(8) != 0) {
            same("format()", x.format(), m.format());
            same("mount()", x.mount(), m.mount());
        }
        while (calls < CALLS && due.wrong() == before) {
            step();
        }
        while (calls < MOST_CALLS && due.wrong() == before) {
            look();
        }
    }

    private void same(String call, long got, long want) {
        calls++;
        due.same("seed " + seed + ", call " + calls + ": " + call, got, want);
    }

    private int folder() {
        if (random.nextInt(40) == 0) {
            return WRONG_FOLDERS[random.nextInt(WRONG_FOLDERS.length)];
        }
        return random.nextInt(3) == 0 ? 0 : random.nextInt(8);
    }

    private int name() {
        return random.nextInt(40) == 0 ? ODD_NAMES[random.nextInt(ODD_NAMES.length)] : 1 + random.nextInt(names);
    }

    private void step() {
        if (m.off()) {
            powerBack();
            return;
        }
        if (random.nextInt(cutOdds) == 0) {
            cut();
        }
        if (random.nextInt(60) == 0) {
            on();
        }
        if (random.nextInt(3) == 0) {
            ask();
        } else if (m.free() == -8 && random.nextInt(3) == 0) {
            same("mount()", x.mount(), m.mount());
        } else {
            change();
        }
    }

    /** While the power is off much may be asked and little is done; then it comes back, and mostly all is mounted. */
    private void powerBack() {
        if (random.nextInt(4) == 0) {
            change();
        }
        if (random.nextInt(3) == 0) {
            ask();
        }
        if (random.nextInt(4) == 0) {
            cut();
        }
        on();
        int next = random.nextInt(12);
        if (next == 0) {
            same("format()", x.format(), m.format());
        } else if (next > 1) {
            same("mount()", x.mount(), m.mount());
        }
    }

    private void cut() {
        int k = random.nextInt(30) - 1;
        calls++;
        x.cut(k);
        m.cut(k);
    }

    private void on() {
        calls++;
        x.on();
        m.on();
    }

    private void change() {
        int d = folder();
        int name = name();
        switch (random.nextInt(32)) {
            case 0 -> {
                if (random.nextInt(10) == 0) {
                    same("format()", x.format(), m.format());
                } else {
                    same("mount()", x.mount(), m.mount());
                }
            }
            case 1, 2, 3, 4, 5, 6 -> same("make(" + d + ", " + name + ")", x.make(d, name), m.make(d, name));
            case 7, 8, 9, 10, 11, 12, 13, 14 -> {
                int n = random.nextInt(30) == 0 ? random.nextInt(12) - 3 : random.nextInt(7);
                long v = random.nextInt(5) == 0 ? -random.nextInt(3) : random.nextLong();
                same("write(" + d + ", " + name + ", " + n + ", " + v + ")", x.write(d, name, n, v), m.write(d, name, n, v));
            }
            case 15, 16, 17, 18, 19 -> same("remove(" + d + ", " + name + ")", x.remove(d, name), m.remove(d, name));
            default -> {
                int e = random.nextInt(4) == 0 ? d : folder();
                int to = name();
                same("rename(" + d + ", " + name + ", " + e + ", " + to + ")", x.rename(d, name, e, to), m.rename(d, name, e, to));
            }
        }
    }

    private void ask() {
        int d = folder();
        int name = name();
        switch (random.nextInt(8)) {
            case 0 -> {
                int k = random.nextInt(7) - 1;
                same("entry(" + d + ", " + k + ")", x.entry(d, k), m.entry(d, k));
            }
            case 1 -> same("kind(" + d + ", " + name + ")", x.kind(d, name), m.kind(d, name));
            case 2 -> same("size(" + d + ", " + name + ")", x.size(d, name), m.size(d, name));
            case 3 -> same("data(" + d + ", " + name + ")", x.data(d, name), m.data(d, name));
            case 4 -> same("child(" + d + ", " + name + ")", x.child(d, name), m.child(d, name));
            case 5 -> same("free()", x.free(), m.free());
            case 6 -> same("off()", x.off() ? 1 : 0, m.off() ? 1 : 0);
            default -> look();
        }
    }

    private void look() {
        int block = random.nextInt(30) == 0 ? random.nextInt(22) - 3 : random.nextInt(16);
        switch (random.nextInt(8)) {
            case 0 -> same("units()", x.units(), m.units());
            case 1 -> same("wear(" + block + ")", x.wear(block), m.wear(block));
            default -> {
                int offset = random.nextInt(30) == 0 ? random.nextInt(70) - 3 : random.nextInt(64);
                same("byteAt(" + block + ", " + offset + ")", x.byteAt(block, offset), m.byteAt(block, offset));
            }
        }
    }
}
