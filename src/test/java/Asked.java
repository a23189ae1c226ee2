/** A FlashTree and the calls made to it, each of which can be held against the answer that is due. */
final class Asked {
    private static final int MOST_CALLS = 512;

    /** An answer, with the call that got it. */
    final class Answer {
        private final String call;
        private final long got;

        private Answer(String call, long got) {
            this.call = call;
            this.got = got;
        }

        void is(long want) {
            due.same("by call " + calls + ", " + call, got, want);
        }

        int value() {
            return (int) got;
        }
    }

    private final Due due;
    private final FlashTree x = new FlashTree();
    private int calls = 0;

    Asked(Due due) {
        this.due = due;
    }

    private void count() {
        calls++;
        if (calls > MOST_CALLS) {
            due.holds("a test keeps to 512 calls on one object", false);
        }
    }

    private Answer answer(String call, long got) {
        count();
        return new Answer(call, got);
    }

    void cut(int k) {
        count();
        x.cut(k);
    }

    void on() {
        count();
        x.on();
    }

    Answer off() {
        return answer("off()", x.off() ? 1 : 0);
    }

    Answer format() {
        return answer("format()", x.format());
    }

    Answer mount() {
        return answer("mount()", x.mount());
    }

    Answer make(int d, int name) {
        return answer("make(" + d + ", " + name + ")", x.make(d, name));
    }

    Answer write(int d, int name, int n, long v) {
        return answer("write(" + d + ", " + name + ", " + n + ", " + v + ")", x.write(d, name, n, v));
    }

    Answer remove(int d, int name) {
        return answer("remove(" + d + ", " + name + ")", x.remove(d, name));
    }

    Answer rename(int d, int name, int e, int to) {
        return answer("rename(" + d + ", " + name + ", " + e + ", " + to + ")", x.rename(d, name, e, to));
    }

    Answer entry(int d, int k) {
        return answer("entry(" + d + ", " + k + ")", x.entry(d, k));
    }

    Answer kind(int d, int name) {
        return answer("kind(" + d + ", " + name + ")", x.kind(d, name));
    }

    Answer size(int d, int name) {
        return answer("size(" + d + ", " + name + ")", x.size(d, name));
    }

    Answer data(int d, int name) {
        return answer("data(" + d + ", " + name + ")", x.data(d, name));
    }

    Answer child(int d, int name) {
        return answer("child(" + d + ", " + name + ")", x.child(d, name));
    }

    Answer free() {
        return answer("free()", x.free());
    }

    Answer byteAt(int block, int offset) {
        return answer("byteAt(" + block + ", " + offset + ")", x.byteAt(block, offset));
    }

    Answer wear(int block) {
        return answer("wear(" + block + ")", x.wear(block));
    }

    Answer units() {
        return answer("units()", x.units());
    }

    /** The bytes of a block from this offset on. */
    void bytes(int block, int from, int... want) {
        for (int i = 0; i < want.length; i++) {
            byteAt(block, from + i).is(want[i]);
        }
    }

    /** The names of folder d, in order, and no more. */
    void names(int d, int... want) {
        for (int k = 0; k < want.length; k++) {
            entry(d, k).is(want[k]);
        }
        entry(d, want.length).is(0);
    }

    void file(int d, int name, int n, long bytes) {
        kind(d, name).is(1);
        size(d, name).is(n);
        data(d, name).is(bytes);
    }

    void folder(int d, int name, int pair) {
        kind(d, name).is(2);
        child(d, name).is(pair);
    }

    /** The power comes back, or was never gone, and the tree is read from the flash. */
    void mountAgain() {
        on();
        mount().is(0);
    }
}
