/** Every promise of the document: ordinary calls, the edges that it names, and wrong numbers. */
public final class PromisesTest {
    private static final Due due = new Due();

    public static void main(String[] args) {
        newObject();
        cut();
        offAndOn();
        format();
        formatOverOldTree();
        revisionGoesRound();
        mount();
        mountFinishesMove();
        make();
        makeRefused();
        makeBeginsUsedPair();
        write();
        writeRefused();
        commitAtTheEdgeOfTheBlock();
        commitBehindATornRecord();
        remove();
        renameWithin();
        renameAcross();
        renameRefused();
        renameIntoItself();
        entryKindSizeDataChild();
        free();
        byteAtWearUnits();
        refusedInOrder();
        due.end();
    }

    private static FlashTree mounted() {
        FlashTree x = new FlashTree();
        due.same("format()", x.format(), 0);
        due.same("mount()", x.mount(), 0);
        return x;
    }

    private static void bytes(String what, FlashTree x, int block, int from, int... want) {
        for (int i = 0; i < want.length; i++) {
            due.same(what + ": byteAt(" + block + ", " + (from + i) + ")", x.byteAt(block, from + i), want[i]);
        }
    }

    private static void names(String what, FlashTree x, int d, int... want) {
        for (int k = 0; k < 5; k++) {
            due.same(what + ": entry(" + d + ", " + k + ")", x.entry(d, k), k < want.length ? want[k] : 0);
        }
    }

    private static void newObject() {
        FlashTree x = new FlashTree();
        for (int block = 0; block < 16; block++) {
            for (int offset = 0; offset < 64; offset += 9) {
                due.same("new: byteAt", x.byteAt(block, offset), 255);
            }
            due.same("new: wear", x.wear(block), 0);
        }
        due.same("new: units", x.units(), 0);
        due.holds("new: on", !x.off());
        due.same("new: free", x.free(), -8);
        due.same("new: mount", x.mount(), -7);
        due.same("new: format", x.format(), 0);
    }

    private static void cut() {
        FlashTree x = new FlashTree();
        x.cut(4);
        due.same("cut(4): format", x.format(), 0);
        due.holds("a cut whose units are used up leaves the power on", !x.off());
        due.same("cut used up: mount", x.mount(), 0);
        due.same("cut used up: write", x.write(0, 1, 0, 0), -9);
        due.holds("the next unit puts the power off", x.off());
        due.same("cut used up: units", x.units(), 4);
        x.on();
        due.same("a cut that put the power off is gone", x.mount(), 0);
        due.same("a cut that put the power off is gone: write", x.write(0, 1, 0, 0), 0);

        x.cut(0);
        x.cut(-1);
        due.same("cut taken back", x.write(0, 1, 0, 0), 0);
        x.cut(0);
        x.cut(Integer.MIN_VALUE);
        due.same("cut taken back by any number below 0", x.write(0, 1, 0, 0), 0);
        x.cut(1);
        x.cut(5);
        due.same("a later cut stands for an earlier one", x.write(0, 1, 0, 0), 0);
        x.cut(Integer.MAX_VALUE);
        due.same("a far cut", x.write(0, 1, 0, 0), 0);

        x.cut(0);
        due.same("cut(0)", x.remove(0, 1), -9);
        x.cut(2);
        x.on();
        due.same("cut set while off: mount needs no unit", x.mount(), 0);
        int before = x.units();
        due.same("cut set while off", x.write(0, 1, 0, 0), -9);
        due.same("cut set while off: units", x.units() - before, 2);
        x.cut(3);
        x.cut(-1);
        due.holds("taking the cut back leaves the power off", x.off());
        x.on();
        due.same("cut taken back while off: mount", x.mount(), 0);
        due.same("cut taken back while off: write", x.write(0, 1, 0, 0), 0);
    }

    private static void offAndOn() {
        FlashTree x = mounted();
        due.holds("off() while on", !x.off());
        x.on();
        due.holds("on() while on", !x.off());
        due.same("on() while on unmounts", x.entry(0, 0), -8);
        due.same("mount again", x.mount(), 0);
        x.cut(0);
        due.holds("a cut alone puts nothing off", !x.off());
        due.same("questions use no units", x.entry(0, 0), 0);
        due.holds("a question under cut(0) leaves the power on", !x.off());
        due.same("make under cut(0)", x.make(0, 1), -9);
        due.holds("off", x.off());
        due.same("format while off", x.format(), -9);
        due.same("mount while off", x.mount(), -9);
        due.holds("still off", x.off());
        due.same("flash stays", x.byteAt(0, 0), 0);
        x.on();
        due.holds("on", !x.off());
        due.same("nothing is mounted after on()", x.free(), -8);
    }

    private static void format() {
        FlashTree x = new FlashTree();
        due.same("format", x.format(), 0);
        due.same("format: units", x.units(), 4);
        bytes("format", x, 0, 0, 0, 0, 0, 255);
        bytes("format", x, 1, 0, 255, 255);
        due.same("format mounts nothing", x.free(), -8);
        due.same("format again", x.format(), 0);
        bytes("format again writes the log anew", x, 1, 0, 1, 0, 0, 255);
        due.same("format again: units", x.units(), 8);
        due.same("format again: wear", x.wear(1), 1);
        for (int k = 0; k < 4; k++) {
            FlashTree y = new FlashTree();
            y.cut(k);
            due.same("first format cut", y.format(), -9);
            y.on();
            due.same("first format cut: mount", y.mount(), -7);
            due.same("first format cut: format", y.format(), 0);
            due.same("first format cut: wear", y.wear(0), k == 0 ? 1 : 2);
            due.same("first format cut: revision", y.byteAt(0, 0), 0);
            due.same("first format cut: other block", y.wear(1), 0);
        }
    }

    private static void formatOverOldTree() {
        FlashTree x = mounted();
        due.same("make", x.make(0, 5), 1);
        due.same("write", x.write(1, 6, 1, 7), 0);
        due.same("format", x.format(), 0);
        due.same("format unmounts", x.entry(0, 0), -8);
        due.same("mount", x.mount(), 0);
        names("formatted", x, 0);
        due.same("old folder is not there", x.entry(1, 0), -1);
        due.same("all but the root are free", x.free(), 7);
        for (int k = 0; k < 4; k++) {
            FlashTree y = mounted();
            due.same("write", y.write(0, 9, 1, 8), 0);
            y.cut(k);
            due.same("format cut", y.format(), -9);
            y.on();
            due.same("mount", y.mount(), 0);
            names("a format that was cut leaves the old tree", y, 0, 9);
        }
    }

    private static void revisionGoesRound() {
        FlashTree x = new FlashTree();
        for (int i = 0; i < 256; i++) {
            due.same("format", x.format(), 0);
            if (i % 9 == 0 || i >= 126 && i <= 130) {
                due.same("revision", x.byteAt(i % 2, 0), i);
            }
        }
        due.same("revision 255", x.byteAt(1, 0), 255);
        due.same("a byte 255 is programmed too", x.units(), 1024);
        due.same("mount", x.mount(), 0);
        due.same("write behind revision 255", x.write(0, 3, 0, 0), 0);
        bytes("behind revision 255", x, 1, 3, 3, 1, 3, 0, 0);
        due.same("format", x.format(), 0);
        due.same("revision 0 behind 255", x.byteAt(0, 0), 0);
        due.same("mount", x.mount(), 0);
        names("revision 0 is newer than 255", x, 0);
        due.same("write behind revision 0", x.write(0, 4, 0, 0), 0);
        bytes("behind revision 0", x, 0, 3, 3, 1, 4, 0, 0);
    }

    private static void mount() {
        FlashTree x = new FlashTree();
        due.same("mount of nothing", x.mount(), -7);
        due.same("format", x.format(), 0);
        due.same("mount", x.mount(), 0);
        due.same("make", x.make(0, 1), 1);
        due.same("make", x.make(1, 2), 2);
        due.same("write", x.write(2, 3, 2, 0x0201), 0);
        int units = x.units();
        due.same("mount again", x.mount(), 0);
        x.on();
        due.same("mount after on", x.mount(), 0);
        due.same("mount without mark uses no units", x.units(), units);
        due.same("tree is known", x.child(0, 1), 1);
        due.same("tree is known", x.child(1, 2), 2);
        due.same("tree is known", x.data(2, 3), 0x0201);
        due.same("tree is known", x.free(), 5);
    }

    /** A tree in which the move of entry 9 of folder 1 to entry 8 of folder 2 was cut after k units. */
    private static FlashTree cutMove(int k) {
        FlashTree x = mounted();
        due.same("make", x.make(0, 1), 1);
        due.same("make", x.make(0, 2), 2);
        due.same("write", x.write(1, 9, 1, 77), 0);
        x.cut(k);
        due.same("rename cut", x.rename(1, 9, 2, 8), -9);
        x.on();
        return x;
    }

    private static void mountFinishesMove() {
        // 9 units put the entry and the mark, 4 take the old entry out, 3 take the mark away.
        for (int k = 0; k < 16; k++) {
            FlashTree x = cutMove(k);
            int before = x.units();
            due.same("mount", x.mount(), 0);
            boolean moved = k >= 9;
            due.same("old name after " + k, x.kind(1, 9), moved ? 0 : 1);
            due.same("new name after " + k, x.kind(2, 8), moved ? 1 : 0);
            // Folder 1 is empty then, so that its log written anew takes 4 units as the record does.
            int removal = k < 9 || k >= 13 ? 0 : 4;
            // Behind a torn record the log is written anew, with the moved file in it.
            int unmark = k < 9 ? 0 : k <= 13 ? 3 : 8;
            due.same("units of mount after " + k, x.units() - before, removal + unmark);
            due.same("a second mount", x.mount(), 0);
            due.same("has no mark to clear after " + k, x.units() - before, removal + unmark);
        }
        for (int m = 0; m < 7; m++) {
            FlashTree x = cutMove(9);
            x.cut(m);
            due.same("mount cut", x.mount(), -9);
            due.holds("mount cut: off", x.off());
            x.on();
            due.same("nothing is mounted", x.entry(0, 0), -8);
            due.same("mount", x.mount(), 0);
            due.same("mount cut, old name", x.kind(1, 9), 0);
            due.same("mount cut, new name", x.data(2, 8), 77);
        }
        FlashTree x = cutMove(9);
        due.same("format forgets the mark", x.format(), 0);
        int before = x.units();
        due.same("mount", x.mount(), 0);
        due.same("units", x.units(), before);
        due.same("make", x.make(0, 1), 1);
        due.same("make", x.make(0, 2), 2);
        before = x.units();
        due.same("mount", x.mount(), 0);
        due.same("a begun pair has no mark", x.units(), before);
    }

    private static void make() {
        FlashTree x = mounted();
        due.same("make", x.make(0, 99), 1);
        due.same("make: units", x.units(), 4 + 4 + 5);
        bytes("make: new log", x, 2, 0, 0, 0, 0, 255);
        bytes("make: parent", x, 0, 3, 3, 2, 99, 1, 0, 255);
        due.same("make", x.make(1, 1), 2);
        bytes("make: parent", x, 2, 3, 3, 2, 1, 2, 0, 255);
        due.same("make, same name elsewhere", x.make(2, 99), 3);
        due.same("kind", x.kind(2, 99), 2);
        due.same("child", x.child(2, 99), 3);
        names("new folder", x, 3);
        for (int k = 0; k < 9; k++) {
            FlashTree y = mounted();
            y.cut(k);
            due.same("make cut", y.make(0, 1), -9);
            y.on();
            due.same("mount", y.mount(), 0);
            names("make cut", y, 0);
            due.same("make cut: free", y.free(), 7);
            due.same("make", y.make(0, 1), 1);
            bytes("make after cut", y, k < 4 ? 2 : 3, 0, k < 4 ? 0 : 1, 0, 0, 255);
        }
    }

    private static void makeRefused() {
        FlashTree x = mounted();
        int units = x.units();
        due.same("no folder 1", x.make(1, 1), -1);
        due.same("no folder 8", x.make(8, 1), -1);
        due.same("no folder -1", x.make(-1, 1), -1);
        due.same("no folder", x.make(Integer.MIN_VALUE, 1), -1);
        due.same("no folder", x.make(Integer.MAX_VALUE, 1), -1);
        due.same("name 0", x.make(0, 0), -1);
        due.same("name 100", x.make(0, 100), -1);
        due.same("name -1", x.make(0, -1), -1);
        due.same("refused: units", x.units(), units);
        due.same("make 1", x.make(0, 1), 1);
        due.same("taken by a folder", x.make(0, 1), -2);
        due.same("write 2", x.write(0, 2, 0, 0), 0);
        due.same("taken by a file", x.make(0, 2), -2);
        due.same("write 3", x.write(0, 3, 0, 0), 0);
        due.same("write 4", x.write(0, 4, 0, 0), 0);
        due.same("taken before full", x.make(0, 4), -2);
        due.same("full", x.make(0, 5), -3);
        int d = 1;
        for (int q = 2; q < 8; q++) {
            due.same("make in a row", x.make(d, 1), q);
            d = q;
        }
        due.same("no pair", x.make(7, 1), -4);
        due.same("full before no pair", x.make(0, 5), -3);
        due.same("taken before no pair", x.make(0, 4), -2);
        due.same("wrong before no pair", x.make(7, 0), -1);
        due.same("free", x.free(), 0);
    }

    private static void makeBeginsUsedPair() {
        FlashTree x = mounted();
        due.same("make", x.make(0, 1), 1);
        due.same("make", x.make(0, 2), 2);
        due.same("write", x.write(1, 5, 0, 0), 0);
        due.same("remove", x.remove(1, 5), 0);
        due.same("remove", x.remove(0, 1), 0);
        due.same("free", x.free(), 6);
        due.same("lowest free pair", x.make(2, 7), 1);
        bytes("begun anew", x, 3, 0, 1, 0, 0, 255);
        due.same("wear of the old block", x.wear(2), 1);
        due.same("wear of the new block", x.wear(3), 1);
        names("begun anew", x, 1);
        due.same("remove", x.remove(2, 7), 0);
        due.same("lowest free pair", x.make(0, 3), 1);
        bytes("begun anew", x, 2, 0, 2, 0, 0, 255);
    }

    private static void write() {
        FlashTree x = mounted();
        due.same("write", x.write(0, 7, 3, 0x0A0B0C0D0E0FL), 0);
        bytes("write", x, 0, 3, 6, 1, 7, 3, 0x0F, 0x0E, 0x0D, 0, 255);
        due.same("units", x.units(), 4 + 8);
        due.same("data", x.data(0, 7), 0x0D0E0FL);
        due.same("size", x.size(0, 7), 3);
        due.same("write", x.write(0, 8, 6, -1L), 0);
        due.same("six bytes", x.data(0, 8), 0xFFFFFFFFFFFFL);
        bytes("bytes 255", x, 0, 11, 9, 1, 8, 6, 255, 255, 255, 255, 255, 255, 0);
        due.same("write over", x.write(0, 7, 0, 5), 0);
        due.same("no bytes", x.data(0, 7), 0);
        due.same("no bytes", x.size(0, 7), 0);
        bytes("no bytes", x, 0, 22, 3, 1, 7, 0, 0, 255);
        names("the place stays", x, 0, 7, 8);
        due.same("the same again is committed too", x.write(0, 7, 0, 5), 0);
        due.same("units", x.units(), 4 + 8 + 11 + 5 + 5);
        due.same("write", x.write(0, 9, 6, Long.MIN_VALUE | 0x800000000001L), 0);
        due.same("data", x.data(0, 9), 0x800000000001L);
        x.on();
        due.same("mount", x.mount(), 0);
        names("mounted", x, 0, 7, 8, 9);
        due.same("mounted: data", x.data(0, 7), 0);
        due.same("mounted: data", x.data(0, 8), 0xFFFFFFFFFFFFL);
        due.same("mounted: data", x.data(0, 9), 0x800000000001L);
    }

    private static void writeRefused() {
        FlashTree x = mounted();
        due.same("make", x.make(0, 1), 1);
        int units = x.units();
        due.same("no folder", x.write(2, 1, 0, 0), -1);
        due.same("no folder", x.write(-1, 1, 0, 0), -1);
        due.same("no folder", x.write(8, 1, 0, 0), -1);
        due.same("name 0", x.write(0, 0, 0, 0), -1);
        due.same("name 100", x.write(0, 100, 0, 0), -1);
        due.same("n -1", x.write(0, 2, -1, 0), -1);
        due.same("n 7", x.write(0, 2, 7, 0), -1);
        due.same("n 7 of a folder's name", x.write(0, 1, 7, 0), -1);
        due.same("a folder's name", x.write(0, 1, 1, 0), -2);
        due.same("refused: units", x.units(), units);
        due.same("write", x.write(0, 2, 0, 0), 0);
        due.same("write", x.write(0, 3, 0, 0), 0);
        due.same("write", x.write(0, 99, 0, 0), 0);
        units = x.units();
        due.same("full", x.write(0, 5, 0, 0), -3);
        due.same("a folder's name in a full folder", x.write(0, 1, 1, 0), -2);
        due.same("refused: units", x.units(), units);
        due.same("a file's name in a full folder", x.write(0, 99, 1, 6), 0);
        names("full", x, 0, 1, 2, 3, 99);
    }

    private static void commitAtTheEdgeOfTheBlock() {
        FlashTree x = mounted();
        // Five records of 11 bytes end at 58; a record of 6 bytes just fits, one of 7 would not.
        for (int i = 0; i < 5; i++) {
            due.same("write", x.write(0, 1, 6, i), 0);
        }
        due.same("a record up to the last byte", x.write(0, 1, 1, 200), 0);
        bytes("up to the last byte", x, 0, 58, 4, 1, 1, 1, 200, 0);
        due.same("nothing was written anew", x.wear(1), 0);
        x.on();
        due.same("mount", x.mount(), 0);
        due.same("data", x.data(0, 1), 200);
        int units = x.units();
        due.same("behind a full block", x.write(0, 2, 0, 0), 0);
        bytes("written anew", x, 1, 0, 1, 7, 1, 1, 1, 200, 1, 2, 0, 0, 255);
        due.same("units", x.units() - units, 11);
        bytes("the old block stays", x, 0, 0, 0, 0, 0, 9);

        FlashTree y = mounted();
        for (int i = 0; i < 5; i++) {
            due.same("write", y.write(0, 1, 6, i), 0);
        }
        due.same("one byte too many", y.write(0, 1, 2, 0x0201), 0);
        bytes("one byte too many", y, 0, 58, 255, 255, 255, 255, 255, 255);
        bytes("written anew", y, 1, 0, 1, 5, 1, 1, 2, 1, 2, 0, 255);
        for (int i = 0; i < 5; i++) {
            due.same("write", y.write(0, 1, 6, i), 0);
        }
        due.same("and back into the first block", y.write(0, 1, 0, 0), 0);
        bytes("block 0 again", y, 0, 0, 2, 3, 1, 1, 0, 0, 255);
        due.same("wear", y.wear(0), 2);
    }

    private static void commitBehindATornRecord() {
        for (int k = 1; k < 6; k++) {
            FlashTree x = mounted();
            due.same("make", x.make(0, 3), 1);
            x.cut(k);
            due.same("write cut", x.write(0, 4, 1, 9), -9);
            x.on();
            due.same("mount", x.mount(), 0);
            names("a torn record does not count", x, 0, 3);
            due.same("remove", x.remove(0, 3), 0);
            bytes("written anew, empty", x, 1, 0, 1, 0, 0, 255);
            names("written anew, empty", x, 0);
        }
        // A torn new block leaves the old one active, and is erased again.
        for (int k = 0; k < 7; k++) {
            FlashTree x = mounted();
            x.cut(1);
            due.same("write cut", x.write(0, 4, 1, 9), -9);
            x.on();
            due.same("mount", x.mount(), 0);
            x.cut(k);
            due.same("written anew, cut", x.write(0, 4, 1, 9), -9);
            x.on();
            due.same("mount", x.mount(), 0);
            names("a torn block does not count", x, 0);
            due.same("write", x.write(0, 4, 1, 9), 0);
            bytes("written anew", x, 1, 0, 1, 4, 1, 4, 1, 9, 0, 255);
            due.same("wear", x.wear(1), k == 0 ? 1 : 2);
        }
    }

    private static void remove() {
        FlashTree x = mounted();
        due.same("write", x.write(0, 1, 1, 1), 0);
        due.same("make", x.make(0, 2), 1);
        due.same("write", x.write(0, 3, 1, 3), 0);
        due.same("write", x.write(1, 4, 1, 4), 0);
        int units = x.units();
        due.same("no folder", x.remove(2, 1), -1);
        due.same("no folder", x.remove(-1, 1), -1);
        due.same("no folder", x.remove(8, 1), -1);
        due.same("no name", x.remove(0, 4), -1);
        due.same("no name", x.remove(0, 0), -1);
        due.same("no name", x.remove(0, -5), -1);
        due.same("not empty", x.remove(0, 2), -5);
        due.same("refused: units", x.units(), units);
        due.same("remove the first", x.remove(0, 1), 0);
        due.same("units", x.units() - units, 4);
        bytes("remove", x, 0, 20, 2, 3, 1, 0, 255);
        names("the others close up", x, 0, 2, 3);
        due.same("data of what closed up", x.data(0, 3), 3);
        due.same("child of what closed up", x.child(0, 2), 1);
        due.same("remove in the folder", x.remove(1, 4), 0);
        due.same("remove the folder", x.remove(0, 2), 0);
        due.same("the folder is not there", x.entry(1, 0), -1);
        names("left", x, 0, 3);
        due.same("remove the last", x.remove(0, 3), 0);
        names("none left", x, 0);
        due.same("removed before", x.remove(0, 3), -1);
        x.on();
        due.same("mount", x.mount(), 0);
        names("none left", x, 0);
        due.same("free", x.free(), 7);
    }

    private static void renameWithin() {
        FlashTree x = mounted();
        due.same("write", x.write(0, 1, 1, 11), 0);
        due.same("make", x.make(0, 2), 1);
        due.same("write", x.write(0, 3, 2, 0x0303), 0);
        int units = x.units();
        due.same("same name", x.rename(0, 1, 0, 1), 0);
        due.same("same name of a folder", x.rename(0, 2, 0, 2), 0);
        due.same("same name: nothing is done", x.units(), units);
        due.same("same name that is none", x.rename(0, 9, 0, 9), -1);
        due.same("file to a new name", x.rename(0, 1, 0, 99), 0);
        bytes("file to a new name", x, 0, 21, 6, 3, 1, 1, 99, 1, 11, 0, 255);
        due.same("units", x.units() - units, 8);
        names("the new name stands last", x, 0, 2, 3, 99);
        due.same("folder to a new name", x.rename(0, 2, 0, 5), 0);
        bytes("folder to a new name", x, 0, 29, 5, 3, 2, 2, 5, 1, 0, 255);
        names("the new name stands last", x, 0, 3, 99, 5);
        due.same("child", x.child(0, 5), 1);
        due.same("a file's name", x.rename(0, 5, 0, 3), -2);
        due.same("a folder's name", x.rename(0, 3, 0, 5), -2);
        due.same("file in the place of a file", x.rename(0, 3, 0, 99), 0);
        names("file in the place of a file", x, 0, 99, 5);
        due.same("data", x.data(0, 99), 0x0303);
        due.same("write", x.write(0, 1, 0, 0), 0);
        due.same("write", x.write(0, 2, 0, 0), 0);
        due.same("in a full folder", x.rename(0, 99, 0, 50), 0);
        names("in a full folder", x, 0, 5, 1, 2, 50);
        x.on();
        due.same("mount", x.mount(), 0);
        names("mounted", x, 0, 5, 1, 2, 50);
        due.same("data", x.data(0, 50), 0x0303);
    }

    private static void renameAcross() {
        FlashTree x = mounted();
        due.same("make", x.make(0, 1), 1);
        due.same("make", x.make(0, 2), 2);
        due.same("write", x.write(1, 9, 2, 0x0201), 0);
        due.same("write", x.write(1, 7, 0, 0), 0);
        int units = x.units();
        due.same("move a file", x.rename(1, 9, 2, 8), 0);
        bytes("target", x, 4, 3, 8, 1, 8, 2, 1, 2, 4, 1, 9, 0, 1, 5, 0, 255);
        bytes("source", x, 2, 15, 2, 3, 9, 0, 255);
        due.same("units", x.units() - units, 10 + 4 + 3);
        names("source", x, 1, 7);
        names("target", x, 2, 8);
        due.same("data", x.data(2, 8), 0x0201);
        due.same("move a folder, same name", x.rename(0, 2, 1, 2), 0);
        bytes("target", x, 2, 19, 6, 2, 2, 2, 4, 0, 2, 0, 1, 5, 0, 255);
        bytes("source", x, 0, 13, 2, 3, 2, 0, 255);
        due.same("child", x.child(1, 2), 2);
        due.same("it is there with what is in it", x.data(2, 8), 0x0201);
        due.same("free", x.free(), 5);
        due.same("write", x.write(0, 3, 1, 3), 0);
        due.same("same name in another folder is a move", x.rename(2, 8, 0, 8), 0);
        names("source", x, 2);
        due.same("file in the place of a file", x.rename(0, 8, 1, 7), 0);
        names("file in the place of a file", x, 1, 7, 2);
        due.same("data", x.data(1, 7), 0x0201);
        due.same("up and out of the folder", x.rename(1, 2, 0, 2), 0);
        names("root", x, 0, 1, 3, 2);
        x.on();
        due.same("mount", x.mount(), 0);
        names("root", x, 0, 1, 3, 2);
        names("folder 1", x, 1, 7);
        markInALogWrittenAnew();
    }

    private static void markInALogWrittenAnew() {
        FlashTree x = mounted();
        due.same("make", x.make(0, 1), 1);
        for (int i = 0; i < 5; i++) {
            due.same("write", x.write(1, 2, 6, i), 0);
        }
        due.same("write", x.write(0, 3, 1, 33), 0);
        x.cut(2 + 17);
        due.same("move into a full log, cut behind its first commit", x.rename(0, 3, 1, 4), -9);
        bytes("with the mark", x, 3, 0, 1, 16, 1, 2, 6, 4, 0, 0, 0, 0, 0, 1, 4, 1, 33, 4, 0, 3, 0xFF);
        x.cut(0);
        x.on();
        due.same("cut before the seal: no mark yet", x.mount(), 0);
        names("source", x, 0, 1, 3);
        x.cut(2 + 18);
        due.same("move again", x.rename(0, 3, 1, 4), -9);
        bytes("sealed", x, 3, 0, 1, 16, 1, 2, 6, 4, 0, 0, 0, 0, 0, 1, 4, 1, 33, 4, 0, 3, 0);
        x.on();
        due.same("mount", x.mount(), 0);
        names("source", x, 0, 1);
        names("target", x, 1, 2, 4);
        bytes("no mark", x, 3, 19, 1, 5, 0, 255);
    }

    private static void renameRefused() {
        FlashTree x = mounted();
        due.same("make", x.make(0, 1), 1);
        due.same("make", x.make(0, 2), 2);
        due.same("write", x.write(0, 3, 0, 0), 0);
        due.same("write", x.write(1, 3, 0, 0), 0);
        due.same("make", x.make(1, 4), 3);
        int units = x.units();
        due.same("no source", x.rename(5, 3, 0, 9), -1);
        due.same("no source", x.rename(-1, 3, 0, 9), -1);
        due.same("no source", x.rename(8, 3, 0, 9), -1);
        due.same("no target", x.rename(0, 3, 5, 9), -1);
        due.same("no target", x.rename(0, 3, -1, 9), -1);
        due.same("no target", x.rename(0, 3, 8, 9), -1);
        due.same("no name", x.rename(0, 9, 1, 9), -1);
        due.same("no name", x.rename(0, 0, 0, 0), -1);
        due.same("to 0", x.rename(0, 3, 1, 0), -1);
        due.same("to 100", x.rename(0, 3, 1, 100), -1);
        due.same("to -1", x.rename(0, 3, 0, -1), -1);
        due.same("file on a folder", x.rename(0, 3, 1, 4), -2);
        due.same("folder on a file", x.rename(0, 2, 1, 3), -2);
        due.same("folder on a folder", x.rename(0, 2, 1, 4), -2);
        due.same("refused: units", x.units(), units);
        due.same("write", x.write(1, 5, 0, 0), 0);
        due.same("write", x.write(1, 6, 0, 0), 0);
        units = x.units();
        due.same("full, file", x.rename(0, 3, 1, 9), -3);
        due.same("full, folder", x.rename(0, 2, 1, 9), -3);
        due.same("taken before full", x.rename(0, 2, 1, 4), -2);
        due.same("full before into itself", x.rename(0, 1, 1, 9), -3);
        due.same("taken before into itself", x.rename(0, 1, 1, 4), -2);
        due.same("refused: units", x.units(), units);
        due.same("file in the place of a file in a full folder", x.rename(0, 3, 1, 5), 0);
        names("full", x, 1, 3, 4, 5, 6);
    }

    private static void renameIntoItself() {
        FlashTree x = mounted();
        due.same("make", x.make(0, 1), 1);
        due.same("make", x.make(1, 1), 2);
        due.same("make", x.make(2, 1), 3);
        due.same("make", x.make(0, 2), 4);
        int units = x.units();
        due.same("into itself", x.rename(0, 1, 1, 9), -6);
        due.same("into its child", x.rename(0, 1, 2, 9), -6);
        due.same("into its child's child", x.rename(0, 1, 3, 9), -6);
        due.same("lower down", x.rename(1, 1, 3, 9), -6);
        due.same("refused: units", x.units(), units);
        due.same("beside it", x.rename(0, 1, 4, 9), 0);
        due.same("up", x.rename(2, 1, 0, 9), 0);
        due.same("free", x.free(), 3);
        due.same("now it is not reached", x.rename(4, 9, 3, 1), 0);
        due.same("child", x.child(3, 1), 1);
        due.same("now it is", x.rename(0, 9, 1, 3), -6);
        due.same("free", x.free(), 3);
    }

    private static void entryKindSizeDataChild() {
        FlashTree x = mounted();
        due.same("write", x.write(0, 1, 2, 0x0201), 0);
        due.same("make", x.make(0, 2), 1);
        due.same("entry -1", x.entry(0, -1), 0);
        due.same("entry 2", x.entry(0, 2), 0);
        due.same("entry 4", x.entry(0, 4), 0);
        due.same("entry far", x.entry(0, Integer.MAX_VALUE), 0);
        due.same("entry far", x.entry(0, Integer.MIN_VALUE), 0);
        due.same("kind of a file", x.kind(0, 1), 1);
        due.same("kind of a folder", x.kind(0, 2), 2);
        due.same("kind of none", x.kind(0, 3), 0);
        due.same("kind of name 0", x.kind(0, 0), 0);
        due.same("kind of name 100", x.kind(0, 100), 0);
        due.same("size of a file", x.size(0, 1), 2);
        due.same("size of a folder", x.size(0, 2), -1);
        due.same("size of none", x.size(0, 3), -1);
        due.same("size of name 0", x.size(0, 0), -1);
        due.same("data of a file", x.data(0, 1), 0x0201);
        due.same("data of a folder", x.data(0, 2), -1);
        due.same("data of none", x.data(0, 3), -1);
        due.same("child, a file", x.child(0, 1), -1);
        due.same("child, a folder", x.child(0, 2), 1);
        due.same("child, none", x.child(0, 3), -1);
        for (int d : new int[] {-1, 2, 7, 8, Integer.MIN_VALUE, Integer.MAX_VALUE}) {
            due.same("entry of no folder", x.entry(d, 0), -1);
            due.same("kind of no folder", x.kind(d, 1), -1);
            due.same("size of no folder", x.size(d, 1), -1);
            due.same("data of no folder", x.data(d, 1), -1);
            due.same("child of no folder", x.child(d, 1), -1);
        }
    }

    private static void free() {
        FlashTree x = mounted();
        due.same("free", x.free(), 7);
        due.same("make", x.make(0, 1), 1);
        due.same("free", x.free(), 6);
        due.same("make", x.make(1, 1), 2);
        due.same("free", x.free(), 5);
        due.same("write", x.write(0, 2, 0, 0), 0);
        due.same("files take no pair", x.free(), 5);
        due.same("remove", x.remove(1, 1), 0);
        due.same("free", x.free(), 6);
        x.on();
        due.same("free unmounted", x.free(), -8);
    }

    private static void byteAtWearUnits() {
        FlashTree x = mounted();
        int[] far = {-1, Integer.MIN_VALUE, Integer.MAX_VALUE};
        due.same("last byte", x.byteAt(15, 63), 255);
        due.same("block 16", x.byteAt(16, 0), -1);
        due.same("offset 64", x.byteAt(0, 64), -1);
        due.same("wear of the last block", x.wear(15), 0);
        due.same("wear of block 16", x.wear(16), -1);
        for (int number : far) {
            due.same("byteAt, block", x.byteAt(number, 0), -1);
            due.same("byteAt, offset", x.byteAt(0, number), -1);
            due.same("wear", x.wear(number), -1);
        }
        x.cut(3);
        due.same("write cut", x.write(0, 5, 1, 6), -9);
        due.same("byteAt while off", x.byteAt(0, 5), 5);
        due.same("byteAt while off: not programmed", x.byteAt(0, 6), 255);
        due.same("byteAt while off: none", x.byteAt(16, 0), -1);
        due.same("wear while off", x.wear(0), 1);
        due.same("wear while off: none", x.wear(16), -1);
        due.same("units while off", x.units(), 7);
        x.on();
        x.cut(0);
        due.same("format cut before the erasing", x.format(), -9);
        due.same("wear of a block that was not erased", x.wear(1), 0);
        due.same("units", x.units(), 7);
    }

    private static void refusedInOrder() {
        FlashTree x = new FlashTree();
        allAnswer("unmounted", x, -8);
        due.same("format", x.format(), 0);
        allAnswer("formatted", x, -8);
        due.same("mount", x.mount(), 0);
        allAnswer("wrong numbers", x, -1);
        x.cut(0);
        due.same("make", x.make(0, 1), -9);
        allAnswer("off", x, -9);
        due.same("off: free", x.free(), -9);
        due.same("off: format", x.format(), -9);
        due.same("off: mount", x.mount(), -9);
        due.same("off: units", x.units(), 4);
        x.on();
        allAnswer("on", x, -8);
        due.same("on: free", x.free(), -8);
    }

    /** Calls with wrong numbers, which are refused with -9 or -8 first where one of these is due. */
    private static void allAnswer(String when, FlashTree x, int want) {
        due.same(when + ": make", x.make(-1, 0), want);
        due.same(when + ": write", x.write(0, 0, 9, 0), want);
        due.same(when + ": remove", x.remove(9, 1), want);
        due.same(when + ": rename", x.rename(0, 1, 0, 1), want);
        due.same(when + ": entry", x.entry(9, 0), want);
        due.same(when + ": kind", x.kind(9, 1), want);
        due.same(when + ": size", x.size(0, 1), want);
        due.same(when + ": data", x.data(0, 1), want);
        due.same(when + ": child", x.child(0, 1), want);
    }
}
