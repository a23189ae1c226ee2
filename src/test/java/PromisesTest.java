/** The sentences of the promises 1 to 19: each has a test of its own, with ordinary numbers, edges and wrong ones. */
public final class PromisesTest extends Sentences {
    private static final int[] NO_FOLDERS = {-1, 3, 7, 8, 256, Integer.MIN_VALUE, Integer.MAX_VALUE};
    private static final int[] NO_NAMES = {0, 100, -1, 256, Integer.MIN_VALUE, Integer.MAX_VALUE};

    public static void main(String[] args) throws Exception {
        run(PromisesTest.class);
    }

    // 1: a new object

    @Says(at = "Promise 1", text = "All bytes 255, no unit used, no cut set, nothing mounted.")
    static void p01NewObject() {
        Asked x = fresh();
        x.byteAt(0, 0).is(255);
        x.byteAt(15, 63).is(255);
        x.units().is(0);
        for (int block = 0; block < 16; block++) {
            x.wear(block).is(0);
        }
        x.off().is(0);
        allRefused(x, -8);
        x.mount().is(-7);
        // No cut is set, however many units are used.
        for (int i = 1; i <= 300; i++) {
            x.format().is(0);
        }
        x.units().is(1200);
        x.off().is(0);
    }

    @Says(at = "Promise 1", text = "All bytes 255, no unit used, no cut set, nothing mounted.")
    static void p01NewObjectBesideAnother() {
        Asked old = fourEntries();
        old.cut(0);
        old.remove(0, 1).is(-9);
        Asked x = fresh();
        x.off().is(0);
        x.units().is(0);
        x.byteAt(0, 0).is(255);
        x.wear(0).is(0);
        x.format().is(0);
        old.off().is(1);
        old.byteAt(0, 3).is(4);
    }

    // 2: cut

    @Says(at = "Promise 2", text = "Sets a cut after k more units")
    static void p02CutAfterKMoreUnits() {
        for (int k = 0; k <= 5; k++) {
            Asked x = mounted();
            x.cut(k);
            x.off().is(0);
            x.write(0, 1, 0, 0).is(k < 5 ? -9 : 0);
            x.off().is(k < 5 ? 1 : 0);
            x.units().is(4 + k);
        }
    }

    @Says(at = "Promise 2", text = "Sets a cut after k more units")
    static void p02CutGoesOnFromCallToCall() {
        Asked x = mounted();
        x.cut(12);
        x.write(0, 1, 0, 0).is(0);
        x.write(0, 2, 0, 0).is(0);
        x.remove(0, 3).is(-1);
        x.mount().is(0);
        x.write(0, 3, 0, 0).is(-9);
        x.units().is(4 + 12);
        x.bytes(0, 13, 3, 1, 255);
    }

    @Says(at = "Promise 2", text = "Sets a cut after k more units")
    static void p02CutStandsForAnEarlierOne() {
        Asked x = mounted();
        x.cut(0);
        x.cut(5);
        x.write(0, 1, 0, 0).is(0);
        x.cut(7);
        x.write(0, 1, 0, 0).is(0);
        x.cut(5);
        x.write(0, 1, 0, 0).is(0);
        x.cut(Integer.MAX_VALUE);
        x.write(0, 1, 0, 0).is(0);
        x.cut(1);
        x.write(0, 1, 0, 0).is(-9);
        x.units().is(4 + 4 * 5 + 1);
    }

    @Says(at = "Promise 2", text = "(k below 0: no cut is set any more)")
    static void p02CutBelow0SetsNoCutAnyMore() {
        for (int k : new int[] {-1, -2, -256, Integer.MIN_VALUE}) {
            Asked x = mounted();
            x.cut(0);
            x.cut(k);
            x.write(0, 1, 0, 0).is(0);
            x.cut(7);
            x.write(0, 1, 0, 0).is(0);
            x.cut(k);
            x.write(0, 1, 0, 0).is(0);
            x.off().is(0);
        }
    }

    @Says(at = "Promise 2", text = "Also while the power is off.")
    static void p02CutAlsoWhileThePowerIsOff() {
        Asked x = mounted();
        x.cut(0);
        x.write(0, 1, 0, 0).is(-9);
        x.cut(2);
        x.off().is(1);
        x.mountAgain();
        x.write(0, 1, 0, 0).is(-9);
        x.units().is(4 + 2);
        // Set while off, and no longer set.
        x.cut(3);
        x.cut(-1);
        x.off().is(1);
        x.mountAgain();
        x.write(0, 1, 0, 0).is(0);
        x.off().is(0);
        // No unit left: the first one puts the power off again.
        x.cut(0);
        x.write(0, 1, 0, 0).is(-9);
        x.cut(0);
        x.mountAgain();
        x.off().is(0);
        x.write(0, 1, 0, 0).is(-9);
    }

    @Says(at = "Promise 2", text = "A cut that has put the power off is set no more.")
    static void p02CutThatHasPutThePowerOffIsSetNoMore() {
        for (int k = 0; k < 5; k++) {
            Asked x = mounted();
            x.cut(k);
            x.write(0, 1, 0, 0).is(-9);
            x.mountAgain();
            for (int i = 0; i < 20; i++) {
                x.write(0, 1, 0, 0).is(0);
            }
            x.off().is(0);
        }
    }

    // 3: off

    @Says(at = "Promise 3", text = "Whether the power is off.")
    static void p03OffOnlyFromTheUnitThatIsNotDoneTillOn() {
        Asked x = fresh();
        x.off().is(0);
        x.cut(0);
        x.off().is(0);
        x.mount().is(-7);
        x.off().is(0);
        x.format().is(-9);
        x.off().is(1);
        x.off().is(1);
        x.format().is(-9);
        x.off().is(1);
        x.cut(5);
        x.off().is(1);
        x.on();
        x.off().is(0);
        x.format().is(0);
        x.off().is(0);
    }

    // 4: on

    @Says(at = "Promise 4", text = "The power is on, whether it was off or not")
    static void p04OnWhetherItWasOffOrNot() {
        Asked x = fresh();
        x.on();
        x.off().is(0);
        x.cut(0);
        x.format().is(-9);
        x.on();
        x.off().is(0);
        x.on();
        x.off().is(0);
        x.units().is(0);
        x.format().is(0);
    }

    @Says(at = "Promise 4", text = "nothing is mounted")
    static void p04OnUnmounts() {
        Asked x = mounted();
        x.on();
        allRefused(x, -8);
        x.mount().is(0);
        x.cut(0);
        x.make(0, 1).is(-9);
        x.on();
        allRefused(x, -8);
        x.mount().is(0);
        x.free().is(7);
    }

    @Says(at = "Promise 4", text = "The power is on, whether it was off or not")
    static void p04OnLeavesACutSet() {
        Asked x = mounted();
        x.cut(7);
        x.write(0, 1, 0, 0).is(0);
        x.mountAgain();
        x.write(0, 1, 0, 0).is(-9);
        x.units().is(4 + 7);
    }

    // 5: format

    @Says(at = "Promise 5", text = "Unmounts, and begins pair 0.")
    static void p05FormatUnmountsAndBeginsPair0() {
        Asked x = fourEntries();
        x.write(1, 9, 0, 0).is(0);
        x.format().is(0);
        allRefused(x, -8);
        x.bytes(1, 0, 1, 0, 0, 255);
        // The other pairs are not touched.
        x.bytes(2, 0, 0, 0, 0, 3, 1, 9, 0, 0, 255);
        x.wear(2).is(1);
        x.wear(3).is(0);
        x.mount().is(0);
        x.names(0);
        x.entry(1, 0).is(-1);
        x.free().is(7);
    }

    @Says(at = "Promise 5", text = "0; -9.")
    static void p05FormatCutOff() {
        for (int k = 0; k <= 4; k++) {
            Asked x = fourEntries();
            x.cut(k);
            x.format().is(k < 4 ? -9 : 0);
            x.off().is(k < 4 ? 1 : 0);
            x.format().is(-9);
            x.on();
            x.free().is(-8);
            x.mount().is(0);
            if (k < 4) {
                x.names(0, 1, 2, 3, 4);
            } else {
                x.names(0);
            }
        }
    }

    // 6: mount

    @Says(at = "Promise 6", text = "Unmounts. -7; else all folders that are there are known from their logs.")
    static void p06MountKnowsAllFolders() {
        Asked x = eightFolders();
        x.write(7, 5, 2, 0x0201).is(0);
        int units = x.units().value();
        x.mount().is(0);
        x.mountAgain();
        for (int q = 0; q < 7; q++) {
            x.names(q, 1);
            x.folder(q, 1, q + 1);
        }
        x.names(7, 5);
        x.file(7, 5, 2, 0x0201);
        x.free().is(0);
        x.units().is(units);
    }

    @Says(at = "Promise 6", text = "Unmounts. -7; else all folders that are there are known from their logs.")
    static void p06MountWithoutARootAnswersMinus7() {
        Asked x = fresh();
        x.mount().is(-7);
        x.free().is(-8);
        x.units().is(0);
        x.cut(0);
        x.mount().is(-7);
        x.off().is(0);
        x.format().is(-9);
        x.mount().is(-9);
    }

    @Says(at = "Promise 6", text = "if folder q is there and has an entry of that name, 3, name is committed to it")
    static void p06MountTakesTheMarkedEntryOut() {
        // 9 units put the entry and the mark, 4 take the old entry out, 3 take the mark away.
        for (int k = 9; k < 13; k++) {
            Asked x = cutMove(k);
            int units = x.units().value();
            x.mount().is(0);
            x.names(0, 1, 2);
            x.names(1);
            x.names(2, 8);
            x.file(2, 8, 1, 77);
            x.bytes(4, 12, 1, 5, 0, 255);
            if (k == 9) {
                x.bytes(2, 9, 2, 3, 9, 0, 255);
            } else {
                x.bytes(3, 0, 1, 0, 0, 255);
            }
            x.units().is(units + 4 + 3);
        }
    }

    @Says(at = "Promise 6", text = "if folder q is there and has an entry of that name, 3, name is committed to it")
    static void p06MountFindsTheMarkedEntryGone() {
        for (int k = 13; k < 16; k++) {
            Asked x = cutMove(k);
            int units = x.units().value();
            x.mount().is(0);
            x.names(1);
            x.names(2, 8);
            x.bytes(2, 9, 2, 3, 9, 0, 255);
            x.wear(3).is(0);
            x.units().is(units + (k == 13 ? 3 : 1 + 1 + 6));
        }
    }

    @Says(at = "Promise 6", text = "then 5 is committed to the folder with the mark")
    static void p06MountTakesTheMarkAway() {
        for (int k = 9; k < 16; k++) {
            Asked x = cutMove(k);
            x.mount().is(0);
            int units = x.units().value();
            // Another entry of the old name stays: the mark is no more.
            x.write(1, 9, 0, 0).is(0);
            units += 5;
            x.mountAgain();
            x.units().is(units);
            x.names(1, 9);
            x.names(2, 8);
        }
    }

    @Says(at = "Promise 6", text = "Then, if one of them has a mark (4, q, name)")
    static void p06MountBeforeTheMarkCountsShowsTheOldTree() {
        for (int k = 0; k < 9; k++) {
            Asked x = cutMove(k);
            int units = x.units().value();
            x.mount().is(0);
            x.units().is(units);
            x.names(1, 9);
            x.names(2);
            x.rename(1, 9, 2, 8).is(0);
            x.names(1);
            x.names(2, 8);
        }
    }

    @Says(at = "Promise 6", text = "Then, if one of them has a mark (4, q, name)")
    static void p06MountFindsAMarkInTheRootAndInTheLastPair() {
        Asked root = mounted();
        root.make(0, 1).is(1);
        root.make(1, 2).is(2);
        root.cut(9);
        root.rename(1, 2, 0, 99).is(-9);
        root.on();
        root.mount().is(0);
        root.names(0, 1, 99);
        root.folder(0, 99, 2);
        root.names(1);
        root.free().is(5);
        Asked last = eightFolders();
        last.write(0, 2, 1, 22).is(0);
        last.cut(9);
        last.rename(0, 2, 7, 3).is(-9);
        last.on();
        last.mount().is(0);
        last.names(0, 1);
        last.names(7, 3);
        last.file(7, 3, 1, 22);
    }

    @Says(at = "Promise 6", text = "Then, if one of them has a mark (4, q, name)")
    static void p06MountFindsNoMarkInAFolderThatIsNotThere() {
        Asked x = cutMove(9);
        x.format().is(0);
        int units = x.units().value();
        x.mount().is(0);
        x.units().is(units);
        x.free().is(7);
    }

    @Says(at = "Promise 6", text = "if folder q is there and has an entry of that name, 3, name is committed to it; then 5 is committed to the folder with the mark.")
    static void p06MountCommitsToFullLogs() {
        Asked x = twoFolders();
        fill(x, 1, 9, 3, 64);
        // The record with the file of one byte and the mark takes 9 bytes.
        fill(x, 2, 7, 3, 55);
        x.cut(9);
        x.rename(1, 9, 2, 8).is(-9);
        x.bytes(4, 55, 7, 1, 8, 1, 1, 4, 1, 9, 0);
        x.on();
        x.mount().is(0);
        x.bytes(3, 0, 1, 0, 0, 255);
        x.names(1);
        x.names(2, 7, 8);
        x.byteAt(5, 0).is(1);
        x.file(2, 8, 1, 1);
        int units = x.units().value();
        x.mountAgain();
        x.units().is(units);
    }

    @Says(at = "Promise 6", text = "Then it is mounted: 0; -9.")
    static void p06MountCutOff() {
        for (int k = 0; k <= 7; k++) {
            Asked x = cutMove(9);
            int units = x.units().value();
            x.cut(k);
            x.mount().is(k < 7 ? -9 : 0);
            x.off().is(k < 7 ? 1 : 0);
            x.units().is(units + k);
            x.free().is(k < 7 ? -9 : 5);
            x.on();
            x.free().is(-8);
            x.cut(-1);
            x.mount().is(0);
            x.names(1);
            x.names(2, 8);
            x.file(2, 8, 1, 77);
            units = x.units().value();
            x.mountAgain();
            x.units().is(units);
        }
    }

    @Says(at = "Promise 6", text = "(Never more than one folder has a mark.)")
    static void p06NoMarkIsLeftByAMoveThatIsRefusedOrDone() {
        Asked x = twoFolders();
        x.write(1, 9, 0, 0).is(0);
        x.make(2, 9).is(3);
        x.rename(1, 9, 2, 9).is(-2);
        x.rename(1, 9, 2, 8).is(0);
        x.rename(2, 8, 0, 8).is(0);
        x.rename(0, 8, 3, 8).is(0);
        int units = x.units().value();
        x.mountAgain();
        x.units().is(units);
        x.names(3, 8);
    }

    // 7: make

    @Says(at = "Promise 7", text = "the lowest free pair is begun, and 2, name, pair committed to d")
    static void p07MakeBeginsThePairAndCommitsTheEntry() {
        Asked x = mounted();
        x.make(0, 99).is(1);
        x.units().is(4 + 4 + 5);
        x.bytes(2, 0, 0, 0, 0, 255);
        x.bytes(0, 3, 3, 2, 99, 1, 0, 255);
        x.make(1, 1).is(2);
        x.bytes(2, 3, 3, 2, 1, 2, 0, 255);
        x.bytes(4, 0, 0, 0, 0, 255);
        x.folder(0, 99, 1);
        x.folder(1, 1, 2);
        x.names(2);
    }

    @Says(at = "Promise 7", text = "the lowest free pair is begun, and 2, name, pair committed to d")
    static void p07MakeTakesTheLowestFreePair() {
        Asked x = mounted();
        for (int q = 1; q <= 4; q++) {
            x.make(0, q).is(q);
        }
        x.make(4, 1).is(5);
        x.remove(0, 3).is(0);
        x.remove(0, 2).is(0);
        x.make(5, 1).is(2);
        x.bytes(5, 0, 1, 0, 0, 255);
        x.make(5, 2).is(3);
        x.make(5, 3).is(6);
        x.remove(0, 1).is(0);
        x.mountAgain();
        x.make(5, 4).is(1);
        x.make(1, 4).is(7);
        x.free().is(0);
    }

    @Says(at = "Promise 7", text = "Makes an empty folder in folder d")
    static void p07MakeOfAnEmptyFolderInAPairThatHeldAnother() {
        Asked x = fourEntries();
        x.write(1, 5, 1, 55).is(0);
        x.make(1, 6).is(2);
        x.format().is(0);
        x.mount().is(0);
        x.make(0, 9).is(1);
        x.names(1);
        x.free().is(6);
        x.entry(2, 0).is(-1);
        x.mountAgain();
        x.names(1);
        x.make(1, 9).is(2);
        x.names(2);
        // Emptied and made again without a mount between.
        x.remove(1, 9).is(0);
        x.make(1, 8).is(2);
        x.write(2, 1, 0, 0).is(0);
        x.rename(1, 8, 0, 8).is(0);
        x.remove(2, 1).is(0);
        x.remove(0, 8).is(0);
        x.make(0, 8).is(2);
        x.names(2);
        x.write(2, 3, 0, 0).is(0);
        x.names(2, 3);
    }

    @Says(at = "Promise 7", text = "The pair.")
    static void p07MakeAnswersThePair() {
        Asked x = mounted();
        for (int q = 1; q < 8; q++) {
            x.make(q - 1, 99).is(q);
            x.child(q - 1, 99).is(q);
        }
    }

    @Says(at = "Promise 7", text = "-1 d is no folder that is there, or name not 1 .. 99")
    static void p07MakeWithWrongNumbers() {
        Asked x = twoFolders();
        for (int d : NO_FOLDERS) {
            x.make(d, 5).is(-1);
        }
        for (int name : NO_NAMES) {
            x.make(0, name).is(-1);
        }
        x.make(0, 99).is(3);
        x.make(3, 1).is(4);
    }

    @Says(at = "Promise 7", text = "-2; -3; -4.")
    static void p07MakeOfATakenName() {
        Asked x = fourEntries();
        x.make(0, 1).is(-2);
        x.make(0, 2).is(-2);
        x.make(0, 3).is(-2);
        x.make(0, 4).is(-2);
        // The same name elsewhere is another.
        x.make(1, 2).is(2);
        x.make(2, 1).is(3);
    }

    @Says(at = "Promise 7", text = "-2; -3; -4.")
    static void p07MakeInAFullFolder() {
        Asked x = mounted();
        for (int name = 1; name <= 4; name++) {
            x.make(0, name).is(name);
        }
        x.make(0, 5).is(-3);
        x.names(0, 1, 2, 3, 4);
        x.free().is(3);
    }

    @Says(at = "Promise 7", text = "-2; -3; -4.")
    static void p07MakeWithoutAFreePair() {
        Asked x = eightFolders();
        x.make(7, 1).is(-4);
        x.make(0, 2).is(-4);
        x.remove(6, 1).is(0);
        x.make(0, 2).is(7);
        x.make(0, 3).is(-4);
    }

    @Says(at = "Promise 7", text = "-2; -3; -4.")
    static void p07MakeRefusedInThisOrder() {
        Asked x = eightFolders();
        x.write(0, 2, 0, 0).is(0);
        x.write(0, 3, 0, 0).is(0);
        x.make(0, 1).is(-2);
        x.make(0, 4).is(-4);
        x.write(0, 4, 0, 0).is(0);
        x.make(0, 4).is(-2);
        x.make(0, 5).is(-3);
        x.make(0, 0).is(-1);
    }

    // 8: write

    @Says(at = "Promise 8", text = "Makes a file in folder d, or puts other bytes into it")
    static void p08WriteMakesAFileOrPutsOtherBytesIntoIt() {
        Asked x = twoFolders();
        x.write(2, 99, 3, 0x030201).is(0);
        x.file(2, 99, 3, 0x030201);
        x.names(2, 99);
        x.write(2, 1, 1, 1).is(0);
        x.write(2, 99, 1, 7).is(0);
        x.names(2, 99, 1);
        x.file(2, 99, 1, 7);
        x.write(2, 99, 6, 8).is(0);
        x.file(2, 99, 6, 8);
        x.write(2, 99, 0, 8).is(0);
        x.file(2, 99, 0, 0);
        x.mountAgain();
        x.file(2, 99, 0, 0);
        x.file(2, 1, 1, 1);
        // The same bytes once more are committed once more.
        int units = x.units().value();
        x.write(2, 1, 1, 1).is(0);
        x.units().is(units + 6);
    }

    @Says(at = "Promise 8", text = "commits 1, name, n and the n lowest bytes of v, the lowest first")
    static void p08WriteTakesTheLowestBytesTheLowestFirst() {
        int[] bytes = {0x88, 0x77, 0x66, 0x55, 0x44, 0x33};
        for (int n = 0; n <= 6; n++) {
            Asked x = mounted();
            x.write(0, 7, n, 0x1122334455667788L).is(0);
            x.bytes(0, 3, 3 + n, 1, 7, n);
            for (int i = 0; i < n; i++) {
                x.byteAt(0, 7 + i).is(bytes[i]);
            }
            x.bytes(0, 7 + n, 0, 255);
            x.units().is(4 + 5 + n);
            long due = 0x1122334455667788L & ((1L << (8 * n)) - 1);
            x.file(0, 7, n, due);
            x.mountAgain();
            x.file(0, 7, n, due);
        }
    }

    @Says(at = "Promise 8", text = "commits 1, name, n and the n lowest bytes of v, the lowest first")
    static void p08WriteOfTheLowestAndTheHighestV() {
        Asked x = mounted();
        x.write(0, 1, 6, -1).is(0);
        x.file(0, 1, 6, 0xFFFFFFFFFFFFL);
        x.write(0, 1, 6, Long.MIN_VALUE).is(0);
        x.file(0, 1, 6, 0);
        x.write(0, 1, 6, Long.MAX_VALUE).is(0);
        x.file(0, 1, 6, 0xFFFFFFFFFFFFL);
        x.write(0, 1, 1, 511).is(0);
        x.file(0, 1, 1, 255);
        x.write(0, 1, 4, 0xFFFFFFFFL).is(0);
        x.file(0, 1, 4, 0xFFFFFFFFL);
        x.mountAgain();
        x.file(0, 1, 4, 0xFFFFFFFFL);
        x.write(0, 1, 6, 0x800080008000L).is(0);
        x.mountAgain();
        x.file(0, 1, 6, 0x800080008000L);
    }

    @Says(at = "Promise 8", text = "-1 d, name as make, or n not 0 .. 6")
    static void p08WriteWithWrongNumbers() {
        Asked x = twoFolders();
        for (int d : NO_FOLDERS) {
            x.write(d, 5, 0, 0).is(-1);
        }
        for (int name : NO_NAMES) {
            x.write(0, name, 0, 0).is(-1);
        }
        for (int n : new int[] {-1, 7, 8, 256, Integer.MIN_VALUE, Integer.MAX_VALUE}) {
            x.write(0, 5, n, 0).is(-1);
            x.write(0, 1, n, 0).is(-1);
        }
        x.names(0, 1, 2);
        x.write(0, 1, 0, 0).is(-2);
        x.write(0, 99, 6, 0).is(0);
        x.write(1, 1, 0, 0).is(0);
    }

    @Says(at = "Promise 8", text = "-2 a folder has that name")
    static void p08WriteOfAFoldersName() {
        Asked x = fourEntries();
        x.write(0, 2, 0, 0).is(-2);
        x.write(0, 2, 6, 1).is(-2);
        x.folder(0, 2, 1);
        // A folder elsewhere may have it.
        x.write(1, 2, 0, 0).is(0);
    }

    @Says(at = "Promise 8", text = "-3 there is no such name and d has 4 entries")
    static void p08WriteInAFullFolder() {
        Asked x = fourEntries();
        x.write(0, 5, 0, 0).is(-3);
        x.write(0, 99, 6, 0).is(-3);
        x.write(0, 4, 1, 5).is(0);
        x.write(0, 1, 1, 6).is(0);
        x.names(0, 1, 2, 3, 4);
        x.file(0, 4, 1, 5);
        x.file(0, 1, 1, 6);
        x.remove(0, 3).is(0);
        x.write(0, 5, 0, 0).is(0);
        x.names(0, 1, 2, 4, 5);
    }

    // 9: remove

    @Says(at = "Promise 9", text = "Takes the entry out of folder d: commits 3, name.")
    static void p09RemoveTakesTheEntryOut() {
        Asked x = fourEntries();
        int units = x.units().value();
        x.remove(0, 1).is(0);
        x.bytes(0, 30, 2, 3, 1, 0, 255);
        x.units().is(units + 4);
        x.names(0, 2, 3, 4);
        x.remove(0, 4).is(0);
        x.remove(0, 2).is(0);
        x.remove(0, 3).is(0);
        x.names(0);
        x.free().is(7);
        x.entry(1, 0).is(-1);
        x.mountAgain();
        x.names(0);
        x.free().is(7);
    }

    @Says(at = "Promise 9", text = "-1 d is no folder that is there, or it has no such name")
    static void p09RemoveOfNoEntry() {
        Asked x = twoFolders();
        x.write(1, 5, 0, 0).is(0);
        for (int d : NO_FOLDERS) {
            x.remove(d, 1).is(-1);
        }
        for (int name : NO_NAMES) {
            x.remove(0, name).is(-1);
            x.remove(2, name).is(-1);
        }
        x.remove(0, 5).is(-1);
        x.remove(2, 5).is(-1);
        x.remove(1, 5).is(0);
        x.remove(1, 5).is(-1);
        x.remove(0, 1).is(0);
        x.remove(1, 5).is(-1);
        x.remove(0, 1).is(-1);
    }

    @Says(at = "Promise 9", text = "-5 it is a folder with entries")
    static void p09RemoveOfAFolderWithEntries() {
        Asked x = twoFolders();
        x.write(1, 5, 0, 0).is(0);
        x.make(2, 5).is(3);
        x.remove(0, 1).is(-5);
        x.remove(0, 2).is(-5);
        x.names(0, 1, 2);
        x.remove(1, 5).is(0);
        x.remove(0, 1).is(0);
        x.remove(2, 5).is(0);
        x.remove(0, 2).is(0);
        x.free().is(7);
        // A new folder in the old pair is empty, whatever the old one held.
        x.make(0, 7).is(1);
        x.write(1, 1, 0, 0).is(0);
        x.rename(1, 1, 0, 1).is(0);
        x.remove(0, 7).is(0);
        // A file is no folder, however many bytes it has.
        x.write(0, 1, 6, -1).is(0);
        x.remove(0, 1).is(0);
    }

    // 10: rename

    @Says(at = "Promise 10", text = "Moves the entry of folder d to folder e, or gives it another name. 0.")
    static void p10RenameMovesAFileAndAFolder() {
        Asked x = twoFolders();
        x.write(1, 9, 6, 0x060504030201L).is(0);
        x.rename(1, 9, 2, 9).is(0);
        x.names(1);
        x.names(2, 9);
        x.file(2, 9, 6, 0x060504030201L);
        x.rename(0, 2, 1, 7).is(0);
        x.names(0, 1);
        x.folder(1, 7, 2);
        x.file(2, 9, 6, 0x060504030201L);
        x.rename(1, 7, 1, 8).is(0);
        x.folder(1, 8, 2);
        x.kind(1, 7).is(0);
        x.rename(1, 8, 0, 1).is(-2);
        x.rename(1, 8, 0, 2).is(0);
        x.folder(0, 2, 2);
        x.mountAgain();
        x.names(0, 1, 2);
        x.names(1);
        x.file(2, 9, 6, 0x060504030201L);
        x.free().is(5);
    }

    @Says(at = "Promise 10", text = "-1 d or e is no folder that is there, d has no such name, or to is not 1 .. 99.")
    static void p10RenameWithWrongNumbers() {
        Asked x = twoFolders();
        x.write(0, 3, 0, 0).is(0);
        for (int d : NO_FOLDERS) {
            x.rename(d, 3, 0, 9).is(-1);
            x.rename(0, 3, d, 9).is(-1);
            x.rename(d, 3, d, 3).is(-1);
        }
        for (int name : NO_NAMES) {
            x.rename(0, name, 1, 9).is(-1);
            x.rename(0, 3, 1, name).is(-1);
            x.rename(0, 3, 0, name).is(-1);
            x.rename(0, name, 0, name).is(-1);
        }
        x.rename(0, 9, 1, 8).is(-1);
        x.rename(0, 9, 0, 3).is(-1);
        x.rename(1, 3, 0, 9).is(-1);
        x.names(0, 1, 2, 3);
        x.names(1);
    }

    @Says(at = "Promise 10", text = "Is d = e and name = to: nothing is done.")
    static void p10RenameToTheSameNameDoesNothing() {
        Asked x = fourEntries();
        int units = x.units().value();
        x.cut(0);
        for (int name = 1; name <= 4; name++) {
            x.rename(0, name, 0, name).is(0);
        }
        x.rename(0, 5, 0, 5).is(-1);
        x.units().is(units);
        x.off().is(0);
        x.names(0, 1, 2, 3, 4);
        x.cut(-1);
        // The same name in another folder is a move.
        x.rename(0, 1, 1, 1).is(0);
        x.names(0, 2, 3, 4);
        x.names(1, 1);
    }

    @Says(at = "Promise 10", text = "-2 e has the name to, and one of the two entries is a folder (a file takes the place of a file)")
    static void p10RenameToATakenName() {
        Asked x = twoFolders();
        x.write(0, 3, 1, 33).is(0);
        x.write(0, 4, 2, 44).is(0);
        x.make(1, 5).is(3);
        x.write(1, 6, 1, 66).is(0);
        x.rename(0, 3, 1, 5).is(-2);
        x.rename(0, 2, 1, 6).is(-2);
        x.rename(0, 2, 1, 5).is(-2);
        x.rename(0, 3, 0, 1).is(-2);
        x.rename(0, 1, 0, 3).is(-2);
        x.rename(0, 1, 0, 2).is(-2);
        x.names(0, 1, 2, 3, 4);
        x.names(1, 5, 6);
    }

    @Says(at = "Promise 10", text = "(a file takes the place of a file)")
    static void p10RenameOfAFileToAFilesName() {
        Asked x = twoFolders();
        x.write(0, 3, 1, 33).is(0);
        x.write(0, 4, 2, 44).is(0);
        x.write(1, 6, 0, 0).is(0);
        x.write(1, 7, 0, 0).is(0);
        x.rename(0, 3, 1, 6).is(0);
        x.names(1, 6, 7);
        x.file(1, 6, 1, 33);
        x.names(0, 1, 2, 4);
        x.write(0, 5, 0, 0).is(0);
        x.rename(0, 5, 0, 4).is(0);
        x.names(0, 1, 2, 4);
        x.file(0, 4, 0, 0);
        x.mountAgain();
        x.names(0, 1, 2, 4);
        x.names(1, 6, 7);
        x.file(1, 6, 1, 33);
        // Within one folder the place is that of the name to, after the others have closed up.
        x.rename(1, 6, 1, 7).is(0);
        x.names(1, 7);
        x.file(1, 7, 1, 33);
    }

    @Says(at = "Promise 10", text = "-3 e has no such name, d is not e, and e has 4 entries")
    static void p10RenameIntoAFullFolder() {
        Asked x = fourEntries();
        x.write(1, 9, 1, 99).is(0);
        x.make(1, 8).is(2);
        x.rename(1, 9, 0, 9).is(-3);
        x.rename(1, 8, 0, 8).is(-3);
        // It has such a name.
        x.rename(1, 9, 0, 3).is(0);
        x.names(0, 1, 2, 3, 4);
        x.file(0, 3, 1, 99);
        x.names(1, 8);
        // It is the same folder.
        x.rename(0, 1, 0, 7).is(0);
        x.names(0, 2, 3, 4, 7);
        x.rename(0, 2, 0, 1).is(0);
        x.names(0, 3, 4, 7, 1);
        // It has three entries.
        x.remove(0, 4).is(0);
        x.rename(1, 8, 0, 8).is(0);
        x.names(0, 3, 7, 1, 8);
    }

    @Says(at = "Promise 10", text = "-6 the entry is a folder, and e is it or is reached from it")
    static void p10RenameOfAFolderIntoItself() {
        Asked x = eightFolders();
        for (int e = 1; e < 8; e++) {
            x.rename(0, 1, e, 9).is(-6);
        }
        for (int e = 4; e < 8; e++) {
            x.rename(3, 1, e, 9).is(-6);
        }
        x.rename(6, 1, 7, 9).is(-6);
        x.rename(6, 1, 0, 9).is(0);
        x.rename(0, 1, 7, 9).is(0);
        x.child(7, 9).is(1);
        x.rename(0, 9, 6, 9).is(-6);
        x.names(0, 9);
        x.free().is(0);
        // Beside it, above it, and with another name in its own place.
        x.rename(5, 1, 7, 1).is(0);
        x.rename(7, 9, 7, 2).is(0);
        x.rename(7, 2, 6, 3).is(0);
        x.mountAgain();
        x.names(7, 1);
        x.names(6, 3);
        x.free().is(0);
    }

    @Says(at = "Promise 10", text = "-6 the entry is a folder, and e is it or is reached from it")
    static void p10RenameOfAFileIntoAFolderBelow() {
        Asked x = eightFolders();
        x.write(0, 5, 1, 55).is(0);
        x.rename(0, 5, 7, 5).is(0);
        x.file(7, 5, 1, 55);
        x.names(0, 1);
        x.rename(7, 5, 0, 5).is(0);
        x.file(0, 5, 1, 55);
    }

    @Says(at = "Promise 10", text = "-6 the entry is a folder, and e is it or is reached from it")
    static void p10RenameRefusedInThisOrder() {
        Asked x = twoFolders();
        x.write(1, 5, 0, 0).is(0);
        x.rename(0, 1, 1, 5).is(-2);
        x.rename(0, 1, 1, 6).is(-6);
        x.write(1, 6, 0, 0).is(0);
        x.make(1, 7).is(3);
        x.write(1, 8, 0, 0).is(0);
        x.rename(0, 1, 1, 7).is(-2);
        x.rename(0, 1, 1, 9).is(-3);
        x.rename(0, 2, 1, 5).is(-2);
        x.rename(0, 2, 1, 9).is(-3);
        x.rename(0, 1, 1, 100).is(-1);
        x.rename(0, 1, 3, 1).is(-6);
    }

    @Says(at = "Promise 10", text = "d = e: one commit of 3, name, and the entry as 1 or 2 with the name to.")
    static void p10RenameWithinAFolderIsOneCommit() {
        Asked x = twoFolders();
        x.write(0, 3, 2, 0x0403).is(0);
        int units = x.units().value();
        x.rename(0, 3, 0, 99).is(0);
        x.bytes(0, 20, 7, 3, 3, 1, 99, 2, 3, 4, 0, 255);
        x.units().is(units + 9);
        x.rename(0, 1, 0, 5).is(0);
        x.bytes(0, 29, 5, 3, 1, 2, 5, 1, 0, 255);
        x.units().is(units + 9 + 7);
        x.names(0, 2, 99, 5);
        x.mountAgain();
        x.names(0, 2, 99, 5);
        // Cut off before the seal, it leaves the old name; with the seal the new one.
        for (int k = 0; k <= 7; k++) {
            Asked y = twoFolders();
            y.cut(k);
            y.rename(0, 1, 0, 5).is(k < 7 ? -9 : 0);
            y.mountAgain();
            if (k < 7) {
                y.names(0, 1, 2);
            } else {
                y.names(0, 2, 5);
            }
        }
    }

    @Says(at = "Promise 10", text = "Else three commits: to e the entry as 1 or 2 with the name to, and 4, d, name; to d 3, name; to e 5.")
    static void p10RenameToAnotherFolderIsThreeCommits() {
        Asked x = twoFolders();
        x.write(1, 9, 2, 0x0201).is(0);
        int units = x.units().value();
        x.rename(1, 9, 2, 8).is(0);
        x.bytes(4, 3, 8, 1, 8, 2, 1, 2, 4, 1, 9, 0, 1, 5, 0, 255);
        x.bytes(2, 10, 2, 3, 9, 0, 255);
        x.units().is(units + 10 + 4 + 3);
        x.rename(0, 2, 1, 2).is(0);
        x.bytes(2, 14, 6, 2, 2, 2, 4, 0, 2, 0, 1, 5, 0, 255);
        x.bytes(0, 13, 2, 3, 2, 0, 255);
        x.units().is(units + 17 + 8 + 4 + 3);
    }

    @Says(at = "Promise 10", text = "Else three commits: to e the entry as 1 or 2 with the name to, and 4, d, name; to d 3, name; to e 5.")
    static void p10RenameToAnotherFolderCutOffIsOneOrTheOther() {
        for (int k = 0; k < 16; k++) {
            Asked x = cutMove(k);
            x.mount().is(0);
            if (k < 9) {
                x.names(1, 9);
                x.names(2);
            } else {
                x.names(1);
                x.names(2, 8);
            }
        }
    }

    // 11 to 16: questions

    @Says(at = "Promise 11", text = "The name of entry k of folder d (0 the first), 0 if there is none")
    static void p11EntryOfEveryK() {
        Asked x = fourEntries();
        for (int k = 0; k < 4; k++) {
            x.entry(0, k).is(k + 1);
        }
        for (int k : new int[] {-1, 4, 5, 64, Integer.MIN_VALUE, Integer.MAX_VALUE}) {
            x.entry(0, k).is(0);
            x.entry(1, k).is(0);
        }
        x.entry(1, 0).is(0);
        x.remove(0, 4).is(0);
        x.entry(0, 3).is(0);
        x.entry(0, 2).is(3);
    }

    @Says(at = "Promise 11", text = "-9; -8; -1 d is no folder that is there.")
    static void p11EntryRefused() {
        Asked x = twoFolders();
        for (int d : NO_FOLDERS) {
            x.entry(d, 0).is(-1);
            x.entry(d, -1).is(-1);
        }
        x.on();
        x.entry(0, 0).is(-8);
        x.entry(9, 0).is(-8);
        x.cut(0);
        x.format().is(-9);
        x.entry(0, 0).is(-9);
    }

    @Says(at = "Promise 12", text = "0 folder d has no such name, 1 it is a file, 2 a folder")
    static void p12KindOfNoneAFileAndAFolder() {
        Asked x = fourEntries();
        x.kind(0, 1).is(1);
        x.kind(0, 2).is(2);
        x.kind(0, 3).is(1);
        x.kind(0, 5).is(0);
        x.kind(0, 99).is(0);
        x.kind(1, 1).is(0);
        for (int name : NO_NAMES) {
            x.kind(0, name).is(0);
        }
    }

    @Says(at = "Promise 12", text = "-9; -8; -1 d is no folder that is there.")
    static void p12KindRefused() {
        Asked x = twoFolders();
        for (int d : NO_FOLDERS) {
            x.kind(d, 1).is(-1);
            x.kind(d, 0).is(-1);
        }
        x.on();
        x.kind(0, 1).is(-8);
        x.kind(9, 1).is(-8);
        x.cut(0);
        x.format().is(-9);
        x.kind(0, 1).is(-9);
    }

    @Says(at = "Promise 13", text = "How many bytes the file has")
    static void p13SizeOf0To6() {
        Asked x = mounted();
        for (int n = 0; n <= 6; n++) {
            x.write(0, 1, n, 0).is(0);
            x.size(0, 1).is(n);
        }
        x.mountAgain();
        x.size(0, 1).is(6);
    }

    @Says(at = "Promise 13", text = "-9; -8; -1 d is no folder that is there, or has no file of that name.")
    static void p13SizeRefused() {
        Asked x = twoFolders();
        x.write(0, 3, 0, 0).is(0);
        for (int d : NO_FOLDERS) {
            x.size(d, 3).is(-1);
        }
        for (int name : NO_NAMES) {
            x.size(0, name).is(-1);
        }
        x.size(0, 1).is(-1);
        x.size(0, 4).is(-1);
        x.size(1, 3).is(-1);
        x.on();
        x.size(0, 3).is(-8);
        x.cut(0);
        x.format().is(-9);
        x.size(0, 3).is(-9);
    }

    @Says(at = "Promise 14", text = "The file's bytes, the first the lowest, 0 if it has none")
    static void p14DataOfNoneAndOfSixBytes() {
        Asked x = mounted();
        x.write(0, 1, 6, 0x060504030201L).is(0);
        x.data(0, 1).is(0x060504030201L);
        x.write(0, 2, 6, -1).is(0);
        x.data(0, 2).is(0xFFFFFFFFFFFFL);
        x.write(0, 3, 2, 0x80FF).is(0);
        x.data(0, 3).is(0x80FF);
        x.write(0, 4, 0, -1).is(0);
        x.data(0, 4).is(0);
        x.mountAgain();
        x.data(0, 1).is(0x060504030201L);
        x.data(0, 2).is(0xFFFFFFFFFFFFL);
        x.data(0, 3).is(0x80FF);
        x.data(0, 4).is(0);
        x.write(0, 1, 0, 0).is(0);
        x.data(0, 1).is(0);
    }

    @Says(at = "Promise 14", text = "-9; -8; -1 as size.")
    static void p14DataRefused() {
        Asked x = twoFolders();
        x.write(0, 3, 0, 0).is(0);
        for (int d : NO_FOLDERS) {
            x.data(d, 3).is(-1);
        }
        for (int name : NO_NAMES) {
            x.data(0, name).is(-1);
        }
        x.data(0, 1).is(-1);
        x.data(0, 4).is(-1);
        x.data(1, 3).is(-1);
        x.on();
        x.data(0, 3).is(-8);
        x.cut(0);
        x.format().is(-9);
        x.data(0, 3).is(-9);
    }

    @Says(at = "Promise 15", text = "The pair of the folder of that name")
    static void p15ChildOf1To7() {
        Asked x = eightFolders();
        for (int q = 0; q < 7; q++) {
            x.child(q, 1).is(q + 1);
        }
        x.mountAgain();
        for (int q = 0; q < 7; q++) {
            x.child(q, 1).is(q + 1);
        }
        x.rename(6, 1, 0, 99).is(0);
        x.child(0, 99).is(7);
    }

    @Says(at = "Promise 15", text = "-9; -8; -1 d is no folder that is there, or has no folder of that name.")
    static void p15ChildRefused() {
        Asked x = twoFolders();
        x.write(0, 3, 1, 1).is(0);
        for (int d : NO_FOLDERS) {
            x.child(d, 1).is(-1);
        }
        for (int name : NO_NAMES) {
            x.child(0, name).is(-1);
        }
        x.child(0, 3).is(-1);
        x.child(0, 4).is(-1);
        x.child(1, 1).is(-1);
        x.on();
        x.child(0, 1).is(-8);
        x.cut(0);
        x.format().is(-9);
        x.child(0, 1).is(-9);
    }

    @Says(at = "Promise 16", text = "How many pairs are free; -9; -8.")
    static void p16FreeFrom7To0() {
        Asked x = fresh();
        x.free().is(-8);
        x.format().is(0);
        x.free().is(-8);
        x.mount().is(0);
        x.free().is(7);
        for (int q = 1; q < 8; q++) {
            x.make(q - 1, 1).is(q);
            x.write(q, 2, 0, 0).is(0);
            x.free().is(7 - q);
        }
        x.remove(7, 2).is(0);
        x.free().is(0);
        x.remove(6, 1).is(0);
        x.free().is(1);
        x.rename(5, 1, 0, 5).is(0);
        x.free().is(1);
        x.cut(0);
        x.remove(6, 2).is(-9);
        x.free().is(-9);
        x.on();
        x.free().is(-8);
    }

    // 17 to 19: the flash

    @Says(at = "Promise 17", text = "A byte of the flash, 0 .. 255; -1 if there is none.")
    static void p17ByteAtTheEdges() {
        Asked x = mounted();
        x.write(0, 1, 2, 0xFF80).is(0);
        x.bytes(0, 3, 5, 1, 1, 2, 128, 255, 0, 255);
        x.byteAt(0, 0).is(0);
        x.byteAt(0, 63).is(255);
        x.byteAt(15, 0).is(255);
        x.byteAt(15, 63).is(255);
        for (int number : new int[] {-1, -64, 64, 1024, Integer.MIN_VALUE, Integer.MAX_VALUE}) {
            x.byteAt(number, 0).is(-1);
            x.byteAt(0, number).is(-1);
            x.byteAt(number, number).is(-1);
        }
        x.byteAt(16, 0).is(-1);
        x.byteAt(16, -64).is(-1);
        x.byteAt(-1, 64).is(-1);
        x.byteAt(1 << 26, 0).is(-1);
    }

    @Says(at = "Promise 17", text = "Also while the power is off.")
    static void p17ByteAtAlsoWhileThePowerIsOff() {
        Asked x = mounted();
        x.cut(3);
        x.write(0, 5, 1, 6).is(-9);
        x.bytes(0, 0, 0, 0, 0, 4, 1, 5, 255);
        x.byteAt(16, 0).is(-1);
        x.byteAt(0, 64).is(-1);
        x.byteAt(15, 63).is(255);
    }

    @Says(at = "Promise 18", text = "How often a block was erased; -1 if there is none.")
    static void p18WearOfEveryBlock() {
        Asked x = eightFolders();
        for (int block = 0; block < 16; block++) {
            x.wear(block).is(block % 2 == 0 ? 1 : 0);
        }
        for (int block : new int[] {-1, 16, 17, Integer.MIN_VALUE, Integer.MAX_VALUE}) {
            x.wear(block).is(-1);
        }
        for (int i = 0; i < 5; i++) {
            x.format().is(0);
        }
        x.wear(0).is(1 + 2);
        x.wear(1).is(3);
    }

    @Says(at = "Promise 18", text = "Also while the power is off.")
    static void p18WearAlsoWhileThePowerIsOff() {
        Asked x = mounted();
        x.cut(0);
        x.format().is(-9);
        x.wear(1).is(0);
        x.on();
        x.cut(1);
        x.format().is(-9);
        x.wear(0).is(1);
        x.wear(1).is(1);
        x.wear(15).is(0);
        x.wear(16).is(-1);
        x.wear(-1).is(-1);
    }

    @Says(at = "Promise 19", text = "How many units were done.")
    static void p19UnitsOfEveryCall() {
        Asked x = fresh();
        x.units().is(0);
        x.mount().is(-7);
        x.units().is(0);
        x.format().is(0);
        x.units().is(4);
        x.mount().is(0);
        x.units().is(4);
        x.make(0, 1).is(1);
        x.units().is(13);
        x.write(0, 2, 3, 0).is(0);
        x.units().is(21);
        x.rename(0, 2, 0, 3).is(0);
        x.units().is(31);
        x.rename(0, 3, 1, 3).is(0);
        x.units().is(31 + 11 + 4 + 3);
        x.remove(1, 3).is(0);
        x.units().is(53);
        x.remove(1, 3).is(-1);
        x.units().is(53);
    }

    @Says(at = "Promise 19", text = "Also while the power is off.")
    static void p19UnitsAlsoWhileThePowerIsOff() {
        Asked x = fresh();
        x.cut(0);
        x.format().is(-9);
        x.units().is(0);
        x.format().is(-9);
        x.units().is(0);
        x.on();
        x.units().is(0);
        x.cut(3);
        x.format().is(-9);
        x.units().is(3);
        x.on();
        x.format().is(0);
        x.units().is(7);
    }
}
