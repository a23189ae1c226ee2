/** A small file system on flash memory that outlives a power failure at any byte. */
public final class FlashTree {
    private static final int BLOCKS = 16;
    private static final int BLOCK_BYTES = 64;
    private static final int PAIRS = 8;
    private static final int MAX_ENTRIES = 4;
    private static final int MAX_NAME = 99;
    private static final int MAX_FILE_BYTES = 6;

    private static final int ERASED = 255;
    private static final int SEAL = 0;
    private static final int REVISION_AT = 0;
    private static final int RECORDS_AT = 1;
    /** The length byte and the seal of a record. */
    private static final int FRAME = 2;

    private static final int OP_FILE = 1;
    private static final int OP_FOLDER = 2;
    private static final int OP_GONE = 3;
    private static final int OP_MARK = 4;
    private static final int OP_NO_MARK = 5;

    private static final int NONE = -1;

    private static final int KIND_FILE = 1;
    private static final int KIND_FOLDER = 2;

    private static final int ALLOWED = 0;
    private static final int WRONG = -1;
    private static final int TAKEN = -2;
    private static final int FULL = -3;
    private static final int NO_FREE_PAIR = -4;
    private static final int NOT_EMPTY = -5;
    private static final int INTO_ITSELF = -6;
    private static final int NO_ROOT = -7;
    private static final int NOT_MOUNTED = -8;
    private static final int POWER_OFF = -9;

    private final Flash flash;
    private final Folder[] folders;
    /** Which folders are there, from the reading of their logs in mount() till the tree is unmounted. */
    private final boolean[] there;
    /** Which folders are reached from the one that is to be moved. */
    private final boolean[] below;
    private final int[] queue;
    private final Operations change;
    private boolean mounted;

    public FlashTree() {
        Flash memory = new Flash();
        Operations scratch = new Operations();
        flash = memory;
        folders = new Folder[PAIRS];
        there = new boolean[PAIRS];
        below = new boolean[PAIRS];
        queue = new int[PAIRS];
        change = new Operations();
        mounted = false;
        for (int q = 0; q < PAIRS; q++) {
            folders[q] = new Folder(q, memory, scratch);
        }
    }

    public void cut(int k) {
        flash.setCut(k);
    }

    public boolean off() {
        return flash.isDark();
    }

    public void on() {
        flash.powerUp();
        mounted = false;
    }

    public int format() {
        mounted = false;
        if (flash.isDark()) {
            return POWER_OFF;
        }
        Folder root = folderAt(0);
        return root != null && root.begin() ? 0 : POWER_OFF;
    }

    public int mount() {
        mounted = false;
        if (flash.isDark()) {
            return POWER_OFF;
        }
        Folder root = folderAt(0);
        if (root == null || root.activeBlock() == NONE) {
            return NO_ROOT;
        }
        loadAll();
        reach(0, there);
        if (!finishMove(markedFolder())) {
            return POWER_OFF;
        }
        reach(0, there);
        mounted = true;
        return 0;
    }

    public int make(int d, int name) {
        Folder parent = folderThere(d);
        if (parent == null) {
            return refusal();
        }
        if (!isName(name)) {
            return WRONG;
        }
        if (parent.list.find(name) != NONE) {
            return TAKEN;
        }
        if (parent.list.isFull()) {
            return FULL;
        }
        int q = lowestFreePair();
        Folder made = folderAt(q);
        if (made == null) {
            return NO_FREE_PAIR;
        }
        change.clear();
        change.addFolder(name, q);
        return ended(made.begin() && parent.commit(change), q);
    }

    public int write(int d, int name, int n, long v) {
        Folder folder = folderThere(d);
        if (folder == null) {
            return refusal();
        }
        if (!isName(name) || n < 0 || n > MAX_FILE_BYTES) {
            return WRONG;
        }
        int k = folder.list.find(name);
        if (folder.list.isFolder(k)) {
            return TAKEN;
        }
        if (k == NONE && folder.list.isFull()) {
            return FULL;
        }
        change.clear();
        change.addFile(name, n, v);
        return ended(folder.commit(change), 0);
    }

    public int remove(int d, int name) {
        Folder folder = folderThere(d);
        if (folder == null) {
            return refusal();
        }
        int k = folder.list.find(name);
        if (k == NONE) {
            return WRONG;
        }
        Folder inside = folderAt(folder.list.pairAt(k));
        if (inside != null && !inside.list.isEmpty()) {
            return NOT_EMPTY;
        }
        change.clear();
        change.addGone(name);
        return ended(folder.commit(change), 0);
    }

    public int rename(int d, int name, int e, int to) {
        Folder source = folderThere(d);
        Folder target = folderThere(e);
        if (source == null || target == null) {
            return refusal();
        }
        int k = source.list.find(name);
        if (k == NONE || !isName(to)) {
            return WRONG;
        }
        if (d == e && name == to) {
            return 0;
        }
        int refused = moveRefusal(source, k, target, to);
        if (refused != ALLOWED) {
            return refused;
        }
        boolean done = d == e ? moveWithin(source, k, to) : moveAcross(source, k, target, to);
        return ended(done, 0);
    }

    public int entry(int d, int k) {
        Folder folder = folderThere(d);
        return folder == null ? refusal() : folder.list.nameAt(k);
    }

    public int kind(int d, int name) {
        Folder folder = folderThere(d);
        if (folder == null) {
            return refusal();
        }
        int k = folder.list.find(name);
        if (k == NONE) {
            return 0;
        }
        return folder.list.isFolder(k) ? KIND_FOLDER : KIND_FILE;
    }

    public int size(int d, int name) {
        Folder folder = folderThere(d);
        if (folder == null) {
            return refusal();
        }
        int k = folder.list.findFile(name);
        return k == NONE ? WRONG : folder.list.lengthAt(k);
    }

    public long data(int d, int name) {
        Folder folder = folderThere(d);
        if (folder == null) {
            return refusal();
        }
        int k = folder.list.findFile(name);
        return k == NONE ? WRONG : folder.list.contentAt(k);
    }

    public int child(int d, int name) {
        Folder folder = folderThere(d);
        if (folder == null) {
            return refusal();
        }
        int k = folder.list.find(name);
        return folder.list.isFolder(k) ? folder.list.pairAt(k) : WRONG;
    }

    public int free() {
        if (!mounted) {
            return refusal();
        }
        int count = 0;
        for (int q = 0; q < PAIRS; q++) {
            if (!there[q]) {
                count++;
            }
        }
        return count;
    }

    public int byteAt(int block, int offset) {
        return flash.peek(block, offset);
    }

    public int wear(int block) {
        return flash.erasuresOf(block);
    }

    public int units() {
        return flash.unitsDone();
    }

    /** Why a call finds no folder: without power or a mounted tree it finds none at all. */
    private int refusal() {
        if (flash.isDark()) {
            return POWER_OFF;
        }
        return mounted ? WRONG : NOT_MOUNTED;
    }

    /** The answer of a call that has changed the tree, or lost its power in it. */
    private int ended(boolean done, int answer) {
        if (!done) {
            mounted = false;
            return POWER_OFF;
        }
        reach(0, there);
        return answer;
    }

    private static boolean isName(int name) {
        return name >= 1 && name <= MAX_NAME;
    }

    private static boolean isPair(int q) {
        return q >= 0 && q < PAIRS;
    }

    private Folder folderAt(int q) {
        return isPair(q) ? folders[q] : null;
    }

    private Folder folderReached(int q) {
        return isPair(q) && there[q] ? folders[q] : null;
    }

    private Folder folderThere(int q) {
        return mounted ? folderReached(q) : null;
    }

    private int lowestFreePair() {
        for (int q = 0; q < PAIRS; q++) {
            if (!there[q]) {
                return q;
            }
        }
        return NONE;
    }

    private void loadAll() {
        for (int q = 0; q < PAIRS; q++) {
            Folder folder = folderAt(q);
            if (folder != null) {
                folder.load();
            }
        }
    }

    /** Sets in reached the folder start and all that are entries of a folder set there. */
    private void reach(int start, boolean[] reached) {
        for (int q = 0; q < PAIRS && q < reached.length; q++) {
            reached[q] = q == start;
        }
        queue[0] = start;
        int waiting = 1;
        for (int next = 0; next < waiting && next < PAIRS; next++) {
            Folder folder = folderAt(queue[next]);
            for (int k = 0; folder != null && k < MAX_ENTRIES; k++) {
                int q = folder.list.pairAt(k);
                if (isPair(q) && q < reached.length && !reached[q] && waiting < PAIRS) {
                    reached[q] = true;
                    queue[waiting] = q;
                    waiting++;
                }
            }
        }
    }

    private Folder markedFolder() {
        for (int q = 0; q < PAIRS; q++) {
            Folder folder = folderReached(q);
            if (folder != null && folder.list.hasMark()) {
                return folder;
            }
        }
        return null;
    }

    /** Brings a move to its end that a power failure cut off behind its first commit. */
    private boolean finishMove(Folder marked) {
        if (marked == null) {
            return true;
        }
        int name = marked.list.markName;
        Folder source = folderReached(marked.list.markPair);
        if (source != null && source.list.find(name) != NONE) {
            change.clear();
            change.addGone(name);
            if (!source.commit(change)) {
                return false;
            }
        }
        change.clear();
        change.addNoMark();
        return marked.commit(change);
    }

    /** Why entry k of source may not become the entry to of target, in the document's order. */
    private int moveRefusal(Folder source, int k, Folder target, int to) {
        boolean movesFolder = source.list.isFolder(k);
        int old = target.list.find(to);
        if (old != NONE && (movesFolder || target.list.isFolder(old))) {
            return TAKEN;
        }
        if (old == NONE && source.pair != target.pair && target.list.isFull()) {
            return FULL;
        }
        if (movesFolder && isWithin(target.pair, source.list.pairAt(k))) {
            return INTO_ITSELF;
        }
        return ALLOWED;
    }

    private boolean isWithin(int q, int top) {
        reach(top, below);
        return isPair(q) && below[q];
    }

    private boolean moveWithin(Folder folder, int k, int to) {
        change.clear();
        change.addGone(folder.list.nameAt(k));
        folder.list.addEntryTo(change, k, to);
        return folder.commit(change);
    }

    private boolean moveAcross(Folder source, int k, Folder target, int to) {
        int name = source.list.nameAt(k);
        change.clear();
        source.list.addEntryTo(change, k, to);
        change.addMark(source.pair, name);
        if (!target.commit(change)) {
            return false;
        }
        change.clear();
        change.addGone(name);
        if (!source.commit(change)) {
            return false;
        }
        change.clear();
        change.addNoMark();
        return target.commit(change);
    }

    /** The memory itself, with its power and the count of its work. */
    private static final class Flash {
        private final int[] cells;
        private final int[] erasures;
        private int done;
        /** Units left before the cut, or NONE if no cut is set. */
        private int left;
        private boolean dark;

        Flash() {
            cells = new int[BLOCKS * BLOCK_BYTES];
            erasures = new int[BLOCKS];
            done = 0;
            left = NONE;
            dark = false;
            for (int i = 0; i < cells.length; i++) {
                cells[i] = ERASED;
            }
        }

        void setCut(int k) {
            left = k < 0 ? NONE : k;
        }

        void powerUp() {
            dark = false;
        }

        boolean isDark() {
            return dark;
        }

        int unitsDone() {
            return done;
        }

        int erasuresOf(int block) {
            return isBlock(block) ? erasures[block] : NONE;
        }

        int peek(int block, int offset) {
            return isBlock(block) && isOffset(offset) ? cells[block * BLOCK_BYTES + offset] : NONE;
        }

        /** Whether the byte was programmed; if not, the power is off. */
        boolean program(int block, int offset, int value) {
            if (!isBlock(block) || !isOffset(offset) || !spendUnit()) {
                return false;
            }
            cells[block * BLOCK_BYTES + offset] = value & 255;
            return true;
        }

        /** Whether the block was erased; if not, the power is off. */
        boolean erase(int block) {
            if (!isBlock(block) || !spendUnit()) {
                return false;
            }
            for (int i = 0; i < BLOCK_BYTES; i++) {
                cells[block * BLOCK_BYTES + i] = ERASED;
            }
            erasures[block]++;
            return true;
        }

        /** The offset behind the record at this one, or NONE if that record does not count. */
        int behindRecord(int block, int at) {
            int length = peek(block, at);
            if (length == NONE) {
                return NONE;
            }
            int sealAt = at + 1 + length;
            return peek(block, sealAt) == SEAL ? sealAt + 1 : NONE;
        }

        private boolean spendUnit() {
            if (left == 0) {
                left = NONE;
                dark = true;
            }
            if (dark) {
                return false;
            }
            if (left > 0) {
                left--;
            }
            done++;
            return true;
        }

        private static boolean isBlock(int block) {
            return block >= 0 && block < BLOCKS;
        }

        private static boolean isOffset(int offset) {
            return offset >= 0 && offset < BLOCK_BYTES;
        }
    }

    /** The operations of one record, as the bytes that stand in the flash. */
    private static final class Operations {
        private final int[] bytes;
        private int length;

        Operations() {
            bytes = new int[BLOCK_BYTES];
            length = 0;
        }

        void clear() {
            length = 0;
        }

        int length() {
            return length;
        }

        int at(int i) {
            return i >= 0 && i < length && i < bytes.length ? bytes[i] : 0;
        }

        void add(int value) {
            if (length >= 0 && length < bytes.length) {
                bytes[length] = value;
                length++;
            }
        }

        void addFile(int name, int n, long content) {
            add(OP_FILE);
            add(name);
            add(n);
            for (int i = 0; i < n && i < MAX_FILE_BYTES; i++) {
                add((int) (content >>> (8 * i)) & 255);
            }
        }

        void addFolder(int name, int q) {
            add(OP_FOLDER);
            add(name);
            add(q);
        }

        void addGone(int name) {
            add(OP_GONE);
            add(name);
        }

        void addMark(int q, int name) {
            add(OP_MARK);
            add(q);
            add(name);
        }

        void addNoMark() {
            add(OP_NO_MARK);
        }

        /** The n bytes of a file from byte i on, the first the lowest. */
        long contentAt(int i, int n) {
            long content = 0;
            for (int b = 0; b < n && b < MAX_FILE_BYTES; b++) {
                content |= (long) at(i + b) << (8 * b);
            }
            return content;
        }
    }

    /** The entries of a folder and its mark. */
    private static final class Listing {
        private final int[] names;
        /** The pair of a folder, NONE for a file. */
        private final int[] pairs;
        private final int[] lengths;
        private final long[] contents;
        private int count;
        private int markPair;
        private int markName;

        Listing() {
            names = new int[MAX_ENTRIES];
            pairs = new int[MAX_ENTRIES];
            lengths = new int[MAX_ENTRIES];
            contents = new long[MAX_ENTRIES];
            count = 0;
            markPair = NONE;
            markName = 0;
        }

        void clear() {
            count = 0;
            markPair = NONE;
        }

        boolean isEmpty() {
            return count == 0;
        }

        boolean isFull() {
            return count >= MAX_ENTRIES;
        }

        boolean hasMark() {
            return markPair != NONE;
        }

        int find(int name) {
            for (int k = 0; k < count && k < MAX_ENTRIES; k++) {
                if (names[k] == name) {
                    return k;
                }
            }
            return NONE;
        }

        int findFile(int name) {
            int k = find(name);
            return isFolder(k) ? NONE : k;
        }

        boolean isFolder(int k) {
            return pairAt(k) != NONE;
        }

        int nameAt(int k) {
            return isPlace(k) ? names[k] : 0;
        }

        int pairAt(int k) {
            return isPlace(k) ? pairs[k] : NONE;
        }

        int lengthAt(int k) {
            return isPlace(k) ? lengths[k] : 0;
        }

        long contentAt(int k) {
            return isPlace(k) ? contents[k] : 0;
        }

        /** Adds the operation that puts entry k, under this name, into a list. */
        void addEntryTo(Operations ops, int k, int name) {
            if (!isPlace(k)) {
                return;
            }
            if (pairs[k] == NONE) {
                ops.addFile(name, lengths[k], contents[k]);
            } else {
                ops.addFolder(name, pairs[k]);
            }
        }

        void addMarkTo(Operations ops) {
            if (hasMark()) {
                ops.addMark(markPair, markName);
            }
        }

        void apply(Operations ops) {
            int at = 0;
            for (int turn = 0; turn < BLOCK_BYTES && at < ops.length(); turn++) {
                at += applyOne(ops, at);
            }
        }

        /** Applies the operation at this byte; how many bytes it has. */
        private int applyOne(Operations ops, int at) {
            int first = ops.at(at + 1);
            int second = ops.at(at + 2);
            switch (ops.at(at)) {
                case OP_FILE:
                    put(first, NONE, second, ops.contentAt(at + 3, second));
                    return 3 + second;
                case OP_FOLDER:
                    put(first, second, 0, 0);
                    return 3;
                case OP_GONE:
                    takeOut(find(first));
                    return 2;
                case OP_MARK:
                    markPair = first;
                    markName = second;
                    return 3;
                case OP_NO_MARK:
                    markPair = NONE;
                    return 1;
                default:
                    // No log holds another operation; passing over its byte keeps the reading in motion.
                    return 1;
            }
        }

        private void put(int name, int pair, int length, long content) {
            int k = find(name);
            if (k == NONE) {
                if (isFull()) {
                    return;
                }
                k = count;
                count++;
            }
            if (isPlace(k)) {
                names[k] = name;
                pairs[k] = pair;
                lengths[k] = length;
                contents[k] = content;
            }
        }

        private void takeOut(int gone) {
            if (!isPlace(gone)) {
                return;
            }
            for (int k = gone; k + 1 < count && k + 1 < MAX_ENTRIES; k++) {
                names[k] = names[k + 1];
                pairs[k] = pairs[k + 1];
                lengths[k] = lengths[k + 1];
                contents[k] = contents[k + 1];
            }
            count--;
        }

        private boolean isPlace(int k) {
            return k >= 0 && k < count && k < MAX_ENTRIES;
        }
    }

    /** A pair of blocks, and the list that comes of the log in it. */
    private static final class Folder {
        private final int pair;
        private final Flash flash;
        /** Shared by all folders: the record that is being read or written anew. */
        private final Operations scratch;
        private final Listing list;

        Folder(int pair, Flash flash, Operations scratch) {
            this.pair = pair;
            this.flash = flash;
            this.scratch = scratch;
            list = new Listing();
        }

        int activeBlock() {
            int even = 2 * pair;
            int odd = even + 1;
            boolean evenCounts = flash.behindRecord(even, RECORDS_AT) != NONE;
            boolean oddCounts = flash.behindRecord(odd, RECORDS_AT) != NONE;
            if (evenCounts && oddCounts) {
                return isNewer(odd, even) ? odd : even;
            }
            if (evenCounts) {
                return even;
            }
            return oddCounts ? odd : NONE;
        }

        void load() {
            list.clear();
            int block = activeBlock();
            int at = RECORDS_AT;
            for (int turn = 0; turn < BLOCK_BYTES; turn++) {
                int next = flash.behindRecord(block, at);
                if (next == NONE) {
                    return;
                }
                readOperations(block, at);
                list.apply(scratch);
                at = next;
            }
        }

        /** Whether the log was begun; if not, the power is off. */
        boolean begin() {
            list.clear();
            return writeAnew(activeBlock());
        }

        /** Whether the operations were committed; if not, the power is off and the list is void. */
        boolean commit(Operations ops) {
            list.apply(ops);
            int block = activeBlock();
            int end = logEnd(block);
            if (end + ops.length() + FRAME <= BLOCK_BYTES && flash.peek(block, end) == ERASED) {
                return programRecord(block, end, ops);
            }
            return writeAnew(block);
        }

        private boolean isNewer(int block, int other) {
            int ahead = (flash.peek(block, REVISION_AT) - flash.peek(other, REVISION_AT)) & 255;
            return ahead >= 1 && ahead <= 127;
        }

        private int logEnd(int block) {
            int end = RECORDS_AT;
            for (int turn = 0; turn < BLOCK_BYTES; turn++) {
                int next = flash.behindRecord(block, end);
                if (next == NONE) {
                    return end;
                }
                end = next;
            }
            return end;
        }

        private void readOperations(int block, int at) {
            int length = flash.peek(block, at);
            scratch.clear();
            for (int i = 0; i < length && i < BLOCK_BYTES; i++) {
                scratch.add(flash.peek(block, at + 1 + i));
            }
        }

        /** Writes the list into the block that is not active, so that the old log stands till the seal. */
        private boolean writeAnew(int active) {
            int block = active == NONE ? 2 * pair : active ^ 1;
            int revision = active == NONE ? 0 : (flash.peek(active, REVISION_AT) + 1) & 255;
            scratch.clear();
            for (int k = 0; k < MAX_ENTRIES; k++) {
                list.addEntryTo(scratch, k, list.nameAt(k));
            }
            list.addMarkTo(scratch);
            return flash.erase(block)
                && flash.program(block, REVISION_AT, revision)
                && programRecord(block, RECORDS_AT, scratch);
        }

        private boolean programRecord(int block, int at, Operations ops) {
            if (!flash.program(block, at, ops.length())) {
                return false;
            }
            for (int i = 0; i < ops.length(); i++) {
                if (!flash.program(block, at + 1 + i, ops.at(i))) {
                    return false;
                }
            }
            return flash.program(block, at + 1 + ops.length(), SEAL);
        }
    }
}
