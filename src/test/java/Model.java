import java.util.ArrayList;
import java.util.Arrays;
import java.util.LinkedHashMap;
import java.util.List;
import java.util.Map;
import java.util.TreeSet;

/**
 * The document once more, written to be read beside it: it keeps no list, but takes every answer from the
 * bytes of the flash, so that it shares no way of thinking with the class under test.
 */
final class Model {
    private static final class PowerWentOff extends Exception {
        private static final long serialVersionUID = 1;
    }

    private interface Work {
        int run() throws PowerWentOff;
    }

    /** An entry is {1, n, bytes..} or {2, pair}; a LinkedHashMap keeps the place of a name that is put again. */
    private static final class Log {
        final Map<Integer, int[]> entries = new LinkedHashMap<>();
        int[] mark = null;
    }

    private final int[][] flash = new int[16][64];
    private final int[] wear = new int[16];
    private int units = 0;
    private int cut = -1;
    private boolean off = false;
    private boolean mounted = false;

    Model() {
        for (int[] block : flash) {
            Arrays.fill(block, 255);
        }
    }

    void cut(int k) {
        cut = Math.max(k, -1);
    }

    boolean off() {
        return off;
    }

    void on() {
        off = false;
        mounted = false;
    }

    int format() {
        mounted = false;
        return working(() -> {
            begin(0);
            return 0;
        });
    }

    int mount() {
        mounted = false;
        if (!off && active(0) < 0) {
            return -7;
        }
        int answer = working(() -> {
            for (int q : below(0)) {
                int[] mark = read(q).mark;
                if (mark != null) {
                    if (below(0).contains(mark[0]) && read(mark[0]).entries.containsKey(mark[1])) {
                        commit(mark[0], List.of(3, mark[1]));
                    }
                    commit(q, List.of(5));
                    break;
                }
            }
            return 0;
        });
        mounted = answer == 0;
        return answer;
    }

    int make(int d, int name) {
        if (refused() != 0) return refused();
        if (!there(d) || name < 1 || name > 99) return -1;
        if (read(d).entries.containsKey(name)) return -2;
        if (read(d).entries.size() == 4) return -3;
        if (below(0).size() == 8) return -4;
        return working(() -> {
            int q = 0;
            while (there(q)) q++;
            begin(q);
            commit(d, List.of(2, name, q));
            return q;
        });
    }

    int write(int d, int name, int n, long v) {
        if (refused() != 0) return refused();
        if (!there(d) || name < 1 || name > 99 || n < 0 || n > 6) return -1;
        int[] old = read(d).entries.get(name);
        if (old != null && old[0] == 2) return -2;
        if (old == null && read(d).entries.size() == 4) return -3;
        int[] file = new int[2 + n];
        file[0] = 1;
        file[1] = n;
        for (int i = 0; i < n; i++) {
            file[2 + i] = (int) Math.floorMod(v >> (8 * i), 256L);
        }
        return working(() -> {
            commit(d, put(name, file));
            return 0;
        });
    }

    int remove(int d, int name) {
        if (refused() != 0) return refused();
        if (!there(d) || !read(d).entries.containsKey(name)) return -1;
        int[] old = read(d).entries.get(name);
        if (old[0] == 2 && !read(old[1]).entries.isEmpty()) return -5;
        return working(() -> {
            commit(d, List.of(3, name));
            return 0;
        });
    }

    int rename(int d, int name, int e, int to) {
        if (refused() != 0) return refused();
        if (!there(d) || !there(e) || !read(d).entries.containsKey(name) || to < 1 || to > 99) return -1;
        if (d == e && name == to) return 0;
        int[] moved = read(d).entries.get(name);
        int[] old = read(e).entries.get(to);
        if (old != null && (old[0] == 2 || moved[0] == 2)) return -2;
        if (old == null && d != e && read(e).entries.size() == 4) return -3;
        if (moved[0] == 2 && below(moved[1]).contains(e)) return -6;
        return working(() -> {
            List<Integer> first = new ArrayList<>();
            if (d == e) {
                first.addAll(List.of(3, name));
                first.addAll(put(to, moved));
                commit(e, first);
                return 0;
            }
            first.addAll(put(to, moved));
            first.addAll(List.of(4, d, name));
            commit(e, first);
            commit(d, List.of(3, name));
            commit(e, List.of(5));
            return 0;
        });
    }

    int entry(int d, int k) {
        if (refused() != 0) return refused();
        if (!there(d)) return -1;
        List<Integer> names = new ArrayList<>(read(d).entries.keySet());
        return k >= 0 && k < names.size() ? names.get(k) : 0;
    }

    int kind(int d, int name) {
        if (refused() != 0) return refused();
        if (!there(d)) return -1;
        int[] found = read(d).entries.get(name);
        return found == null ? 0 : found[0];
    }

    int size(int d, int name) {
        int kind = kind(d, name);
        return kind == 1 ? read(d).entries.get(name)[1] : kind < 0 ? kind : -1;
    }

    long data(int d, int name) {
        int size = size(d, name);
        if (size < 0) return size;
        long sum = 0;
        for (int i = size; i > 0; i--) {
            sum = sum * 256 + read(d).entries.get(name)[1 + i];
        }
        return sum;
    }

    int child(int d, int name) {
        int kind = kind(d, name);
        return kind == 2 ? read(d).entries.get(name)[1] : kind < 0 ? kind : -1;
    }

    int free() {
        return refused() != 0 ? refused() : 8 - below(0).size();
    }

    int byteAt(int block, int offset) {
        return block < 0 || block > 15 || offset < 0 || offset > 63 ? -1 : flash[block][offset];
    }

    int wear(int block) {
        return block < 0 || block > 15 ? -1 : wear[block];
    }

    int units() {
        return units;
    }

    private int refused() {
        return off ? -9 : mounted ? 0 : -8;
    }

    private int working(Work work) {
        if (off) return -9;
        try {
            return work.run();
        } catch (PowerWentOff e) {
            mounted = false;
            return -9;
        }
    }

    private void unit() throws PowerWentOff {
        if (cut == 0) {
            cut = -1;
            off = true;
            throw new PowerWentOff();
        }
        if (cut > 0) cut--;
        units++;
    }

    private void program(int block, int offset, int value) throws PowerWentOff {
        unit();
        if (flash[block][offset] != 255) {
            throw new IllegalStateException("byte " + offset + " of block " + block + " is programmed twice");
        }
        flash[block][offset] = value;
    }

    private void fresh(int block, int revision, List<Integer> operations) throws PowerWentOff {
        unit();
        Arrays.fill(flash[block], 255);
        wear[block]++;
        program(block, 0, revision);
        record(block, 1, operations);
    }

    private void record(int block, int at, List<Integer> operations) throws PowerWentOff {
        program(block, at, operations.size());
        for (int i = 0; i < operations.size(); i++) {
            program(block, at + 1 + i, operations.get(i));
        }
        program(block, at + 1 + operations.size(), 0);
    }

    private void begin(int q) throws PowerWentOff {
        int active = active(q);
        if (active < 0) {
            fresh(2 * q, 0, List.of());
        } else {
            fresh(4 * q + 1 - active, (flash[active][0] + 1) % 256, List.of());
        }
    }

    private void commit(int q, List<Integer> operations) throws PowerWentOff {
        int active = active(q);
        int end = end(active);
        if (end + operations.size() + 2 <= 64 && flash[active][end] == 255) {
            record(active, end, operations);
            return;
        }
        Log after = read(q);
        apply(after, operations.stream().mapToInt(i -> i).toArray());
        List<Integer> all = new ArrayList<>();
        after.entries.forEach((name, what) -> all.addAll(put(name, what)));
        if (after.mark != null) {
            all.addAll(List.of(4, after.mark[0], after.mark[1]));
        }
        fresh(4 * q + 1 - active, (flash[active][0] + 1) % 256, all);
    }

    private static List<Integer> put(int name, int[] what) {
        List<Integer> operation = new ArrayList<>(List.of(what[0], name));
        for (int i = 1; i < what.length; i++) {
            operation.add(what[i]);
        }
        return operation;
    }

    private boolean counts(int block, int at) {
        if (at > 63) return false;
        int seal = at + 1 + flash[block][at];
        return seal <= 63 && flash[block][seal] == 0;
    }

    private int end(int block) {
        int at = 1;
        while (counts(block, at)) at += flash[block][at] + 2;
        return at;
    }

    private int active(int q) {
        boolean even = counts(2 * q, 1);
        boolean odd = counts(2 * q + 1, 1);
        if (even && odd) {
            int lead = Math.floorMod(flash[2 * q][0] - flash[2 * q + 1][0], 256);
            if (lead != 1 && lead != 255) {
                throw new IllegalStateException("revisions of pair " + q + " are not neighbours");
            }
            return lead == 1 ? 2 * q : 2 * q + 1;
        }
        return even ? 2 * q : odd ? 2 * q + 1 : -1;
    }

    private Log read(int q) {
        Log log = new Log();
        int active = active(q);
        if (active < 0) {
            throw new IllegalStateException("pair " + q + " has no block that counts");
        }
        for (int at = 1; counts(active, at); at += flash[active][at] + 2) {
            apply(log, Arrays.copyOfRange(flash[active], at + 1, at + 1 + flash[active][at]));
        }
        if (log.entries.size() > 4) {
            throw new IllegalStateException("folder " + q + " has too many entries");
        }
        return log;
    }

    private static void apply(Log log, int[] o) {
        int i = 0;
        while (i < o.length) {
            switch (o[i]) {
                case 1 -> {
                    int[] file = new int[2 + o[i + 2]];
                    file[0] = 1;
                    System.arraycopy(o, i + 2, file, 1, 1 + o[i + 2]);
                    log.entries.put(o[i + 1], file);
                    i += 3 + o[i + 2];
                }
                case 2 -> {
                    log.entries.put(o[i + 1], new int[] {2, o[i + 2]});
                    i += 3;
                }
                case 3 -> {
                    log.entries.remove(o[i + 1]);
                    i += 2;
                }
                case 4 -> {
                    log.mark = new int[] {o[i + 1], o[i + 2]};
                    i += 3;
                }
                case 5 -> {
                    log.mark = null;
                    i += 1;
                }
                default -> throw new IllegalStateException("no operation " + o[i]);
            }
        }
    }

    private boolean there(int q) {
        return below(0).contains(q);
    }

    private TreeSet<Integer> below(int top) {
        TreeSet<Integer> found = new TreeSet<>();
        walk(top, found);
        return found;
    }

    private void walk(int q, TreeSet<Integer> found) {
        if (!found.add(q)) return;
        for (int[] what : read(q).entries.values()) {
            if (what[0] == 2) walk(what[1], found);
        }
    }
}
