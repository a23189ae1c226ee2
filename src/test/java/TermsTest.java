import java.util.Arrays;

/** The sentences of the document's Terms that name a boundary: each has a test of its own. */
public final class TermsTest extends Sentences {
    private static final int[] NO_FOLDERS = {-1, 3, 7, 8, 256, Integer.MIN_VALUE, Integer.MAX_VALUE};

    public static void main(String[] args) throws Exception {
        run(TermsTest.class);
    }

    // FLASH

    @Says(at = "Terms", text = "16 BLOCKS of 64 bytes")
    static void sixteenBlocksOf64Bytes() {
        Asked x = fresh();
        for (int block = 0; block < 16; block++) {
            x.byteAt(block, 0).is(255);
            x.byteAt(block, 63).is(255);
            x.byteAt(block, 64).is(-1);
            x.byteAt(block, -1).is(-1);
            x.wear(block).is(0);
        }
        x.byteAt(16, 0).is(-1);
        x.byteAt(-1, 63).is(-1);
        x.wear(16).is(-1);
        x.wear(-1).is(-1);
    }

    @Says(at = "Terms", text = "all 255 at first")
    static void all255AtFirst() {
        for (int value : flashAfter(x -> { })) {
            due.same("a byte at first", value, 255);
        }
    }

    @Says(at = "Terms", text = "A UNIT of work is either to PROGRAM one byte (one that is 255) or to ERASE one block")
    static void aUnitIsAByteProgrammedOrABlockErased() {
        Asked x = fresh();
        x.format().is(0);
        x.units().is(1 + 3);
        x.mount().is(0);
        x.units().is(4);
        x.write(0, 1, 1, 1).is(0);
        x.units().is(4 + 6);
        x.write(0, 1, 6, -1).is(0);
        x.units().is(4 + 6 + 11);
        x.bytes(0, 9, 9, 1, 1, 6, 255, 255, 255, 255, 255, 255, 0, 255);
    }

    @Says(at = "Terms", text = "(its 64 bytes become 255)")
    static void erasingABlockMakesAllItsBytes255() {
        Asked x = filledTo(64);
        x.write(0, 1, 0, 0).is(0);
        fill(x, 0, 1, 6, 64);
        for (int offset = 1; offset < 64; offset++) {
            due.holds("byte " + offset + " was programmed", x.byteAt(0, offset).value() != 255);
        }
        int units = x.units().value();
        x.cut(1);
        x.write(0, 1, 0, 0).is(-9);
        for (int offset = 0; offset < 64; offset++) {
            x.byteAt(0, offset).is(255);
        }
        x.units().is(units + 1);
        x.wear(0).is(2);
        x.byteAt(1, 63).is(0);
        x.byteAt(2, 0).is(255);
    }

    @Says(at = "Terms", text = "When a cut is set and its units are used up, the next unit is not done and the power is OFF")
    static void aCutWhoseUnitsAreUsedUpLeavesThePowerOnTillTheNextUnit() {
        Asked x = fresh();
        x.cut(4);
        x.format().is(0);
        x.off().is(0);
        x.mount().is(0);
        x.off().is(0);
        x.write(0, 1, 0, 0).is(-9);
        x.off().is(1);
    }

    @Says(at = "Terms", text = "the next unit is not done and the power is OFF")
    static void theNextByteIsNotProgrammed() {
        Asked x = mounted();
        x.cut(2);
        x.write(0, 7, 1, 9).is(-9);
        x.off().is(1);
        x.bytes(0, 3, 4, 1, 255, 255);
        x.units().is(4 + 2);
    }

    @Says(at = "Terms", text = "the next unit is not done and the power is OFF")
    static void theNextBlockIsNotErased() {
        Asked x = filledTo(64);
        x.write(0, 1, 0, 0).is(0);
        fill(x, 0, 1, 6, 64);
        int units = x.units().value();
        x.cut(0);
        x.write(0, 1, 0, 0).is(-9);
        x.off().is(1);
        x.wear(0).is(1);
        x.units().is(units);
        x.bytes(0, 0, 0, 0, 0, 9, 1, 1, 6);
        x.byteAt(0, 63).is(0);
    }

    @Says(at = "Terms", text = "everything that the flash holds stays")
    static void theFlashStaysWhenThePowerIsOff() {
        int[] before = flashAfter(x -> fourEntriesOf(x));
        sameFlash("cut off before the first unit", flashAfter(x -> {
            fourEntriesOf(x);
            x.cut(0);
            x.write(0, 1, 0, 0).is(-9);
        }), before);
        before[32] = 3;
        before[33] = 1;
        sameFlash("cut off after two units", flashAfter(x -> {
            fourEntriesOf(x);
            x.cut(2);
            x.write(0, 1, 0, 0).is(-9);
        }), before);
        sameFlash("the power is on again", flashAfter(x -> {
            fourEntriesOf(x);
            x.cut(2);
            x.write(0, 1, 0, 0).is(-9);
            x.format().is(-9);
            x.mount().is(-9);
            x.mountAgain();
        }), before);
    }

    /** As fourEntries(), with the log of the root up to offset 32. */
    private static void fourEntriesOf(Asked x) {
        x.format().is(0);
        x.mount().is(0);
        x.write(0, 1, 1, 11).is(0);
        x.make(0, 2).is(1);
        x.write(0, 3, 2, 0x0403).is(0);
        x.write(0, 4, 6, 0x060504030201L).is(0);
    }

    // PAIR

    @Says(at = "Terms", text = "PAIR q (0 .. 7) is the blocks 2q and 2q + 1")
    static void pairQIsTheBlocks2qAnd2qPlus1() {
        Asked x = eightFolders();
        for (int q = 0; q < 8; q++) {
            x.bytes(2 * q, 0, 0, 0, 0);
            x.wear(2 * q).is(1);
            x.byteAt(2 * q + 1, 0).is(255);
            x.wear(2 * q + 1).is(0);
        }
        for (int q = 0; q < 8; q++) {
            fill(x, q, 2, q < 7 ? 8 : 3, 64);
            x.write(q, 2, 0, 0).is(0);
            x.byteAt(2 * q + 1, 0).is(1);
            x.wear(2 * q + 1).is(1);
            x.wear(2 * q).is(1);
        }
    }

    @Says(at = "Terms", text = "Byte 0 of a block is its REVISION, from byte 1 on stand its RECORDS, one behind the other")
    static void theRevisionIsByte0AndTheRecordsStandBehindIt() {
        Asked x = mounted();
        x.write(0, 7, 1, 9).is(0);
        x.remove(0, 7).is(0);
        x.bytes(0, 0, 0, 0, 0, 4, 1, 7, 1, 9, 0, 2, 3, 7, 0, 255);
        x.format().is(0);
        x.bytes(1, 0, 1, 0, 0, 255);
    }

    @Says(at = "Terms", text = "A record is a byte L (the number of bytes of its OPERATIONS), the L bytes of its operations, and a SEAL, a byte 0.")
    static void theShortestAndTheLongestRecord() {
        Asked x = mounted();
        x.bytes(0, 1, 0, 0);
        x.make(0, 9).is(1);
        x.write(0, 8, 6, 0x060504030201L).is(0);
        for (int name = 1; name <= 4; name++) {
            x.write(1, name, 6, 0x060504030201L * name).is(0);
        }
        tear(x, 1, 1);
        // Four files of six bytes and the mark: no list is longer.
        x.rename(0, 8, 1, 4).is(0);
        x.bytes(3, 0, 1, 39);
        x.bytes(3, 29, 1, 4, 6, 1, 2, 3, 4, 5, 6, 4, 0, 8, 0, 1, 5, 0, 255);
        x.mountAgain();
        x.names(1, 1, 2, 3, 4);
        x.file(1, 3, 6, 0x060504030201L * 3);
        x.file(1, 4, 6, 0x060504030201L);
    }

    @Says(at = "Terms", text = "A record is programmed byte by byte in this order, the seal last.")
    static void aRecordIsProgrammedInOrderTheSealLast() {
        int[] record = {5, 1, 7, 2, 8, 9, 0};
        for (int k = 0; k < record.length; k++) {
            Asked x = mounted();
            x.cut(k);
            x.write(0, 7, 2, 0x0908).is(-9);
            for (int i = 0; i < record.length; i++) {
                x.byteAt(0, 3 + i).is(i < k ? record[i] : 255);
            }
        }
        int[] block = {1, 3, 1, 1, 0, 0};
        for (int k = 1; k <= block.length; k++) {
            Asked x = filledTo(64);
            x.cut(k);
            x.write(0, 1, 0, 0).is(-9);
            x.wear(1).is(1);
            for (int i = 0; i < block.length; i++) {
                x.byteAt(1, i).is(i < k - 1 ? block[i] : 255);
            }
        }
    }

    @Says(at = "Terms", text = "A record counts if its seal is 0; the first one that does not, and what is behind it, does not count.")
    static void aRecordWithoutSealDoesNotCount() {
        for (int k = 0; k < 7; k++) {
            Asked x = mounted();
            x.write(0, 5, 0, 0).is(0);
            x.cut(k);
            x.write(0, 7, 2, 0).is(-9);
            x.mountAgain();
            x.names(0, 5);
        }
        Asked x = mounted();
        x.write(0, 5, 0, 0).is(0);
        x.cut(7);
        x.write(0, 7, 2, 0).is(0);
        x.mountAgain();
        x.names(0, 5, 7);
    }

    @Says(at = "Terms", text = "A block COUNTS if its first record does.")
    static void aBlockCountsIfItsFirstRecordDoes() {
        for (int k = 0; k < 4; k++) {
            Asked x = fresh();
            x.cut(k);
            x.format().is(-9);
            x.on();
            x.mount().is(-7);
        }
        Asked x = fresh();
        x.cut(4);
        x.format().is(0);
        x.mountAgain();
        // The second record does not count, the block does.
        x.cut(1);
        x.write(0, 1, 0, 0).is(-9);
        x.mountAgain();
    }

    @Says(at = "Terms", text = "Of a pair the ACTIVE block is the one that counts")
    static void theActiveBlockIsTheOneThatCounts() {
        // Erasing, revision, L, three bytes of operations: the new block lacks its seal.
        for (int k = 0; k <= 6; k++) {
            Asked x = filledTo(64);
            x.cut(k);
            x.write(0, 1, 0, 0).is(-9);
            x.mountAgain();
            x.file(0, 1, 1, 1);
        }
        for (int k = 0; k <= 6; k++) {
            Asked x = filledTo(64);
            x.write(0, 2, 1, 22).is(0);
            fill(x, 0, 1, 11, 64);
            x.remove(0, 2).is(0);
            x.bytes(0, 0, 2, 7);
            fill(x, 0, 1, 10, 64);
            x.cut(k);
            x.write(0, 1, 0, 0).is(-9);
            x.mountAgain();
            x.names(0, 1);
            x.file(0, 1, 5, 0x0504030201L);
        }
    }

    @Says(at = "Terms", text = "Of a pair the ACTIVE block is the one that counts")
    static void theBlock2qPlus1IsActiveWhenItAloneCounts() {
        Asked x = filledTo(64);
        x.write(0, 2, 0, 0).is(0);
        // The record with both files ends at 10 of block 1.
        fill(x, 0, 1, 10, 56);
        x.cut(1);
        x.write(0, 1, 6, 9).is(-9);
        x.byteAt(0, 1).is(255);
        x.mountAgain();
        x.names(0, 1, 2);
        // The block that was cut off does not keep a shorter record from the active one.
        x.write(0, 1, 3, 9).is(0);
        x.bytes(1, 56, 6, 1, 1, 3, 9, 0, 0, 0);
        x.wear(0).is(2);
        x.write(0, 1, 0, 0).is(0);
        x.bytes(0, 0, 2, 6, 1, 1, 0, 1, 2, 0, 0, 255);
    }

    @Says(at = "Terms", text = "if both do, the one whose revision is newer")
    static void ofTwoBlocksThatCountTheNewerIsActive() {
        Asked x = filledTo(64);
        x.write(0, 1, 0, 0).is(0);
        x.mountAgain();
        x.file(0, 1, 0, 0);
        fill(x, 0, 1, 6, 64);
        x.write(0, 2, 0, 0).is(0);
        x.byteAt(0, 0).is(2);
        x.byteAt(1, 0).is(1);
        x.mountAgain();
        x.names(0, 1, 2);
    }

    @Says(at = "Terms", text = "revision r is newer than s if (r - s) & 255 is 1 .. 127")
    static void theNewerRevisionAlsoWhereItWrapsAround() {
        for (int revision : new int[] {0, 1, 126, 127, 128, 129, 253, 254, 255, 256}) {
            Asked x = fresh();
            for (int i = 0; i <= revision; i++) {
                x.format().is(0);
            }
            x.mount().is(0);
            int block = revision % 2;
            x.byteAt(block, 0).is(revision & 255);
            x.write(0, 5, 0, 0).is(0);
            x.bytes(block, 3, 3, 1, 5, 0, 0);
            tear(x, 0, 5);
            x.names(0, 5);
            x.write(0, 6, 0, 0).is(0);
            x.bytes(1 - block, 0, (revision + 1) & 255, 6, 1, 5, 0, 1, 6, 0, 0);
            x.mountAgain();
            x.names(0, 5, 6);
            x.write(0, 7, 0, 0).is(0);
            x.bytes(1 - block, 9, 3, 1, 7, 0, 0);
        }
    }

    // OPERATIONS

    @Says(at = "Terms", text = "1, name, n, n bytes: a file with these bytes (n 0 .. 6).")
    static void aFileOfNoneAndOfSixBytes() {
        Asked x = mounted();
        x.write(0, 1, 0, -1).is(0);
        x.bytes(0, 3, 3, 1, 1, 0, 0, 255);
        x.write(0, 99, 6, 0x060504030201L).is(0);
        x.bytes(0, 8, 9, 1, 99, 6, 1, 2, 3, 4, 5, 6, 0, 255);
        x.mountAgain();
        x.names(0, 1, 99);
        x.file(0, 1, 0, 0);
        x.file(0, 99, 6, 0x060504030201L);
    }

    @Says(at = "Terms", text = "2, name, q: the folder whose log is in pair q.")
    static void aFolderInTheFirstAndInTheLastFreePair() {
        Asked x = mounted();
        x.make(0, 99).is(1);
        x.bytes(0, 3, 3, 2, 99, 1, 0, 255);
        for (int q = 2; q < 8; q++) {
            x.make(q - 1, 1).is(q);
        }
        x.bytes(12, 3, 3, 2, 1, 7, 0, 255);
        x.mountAgain();
        x.folder(0, 99, 1);
        x.folder(6, 1, 7);
    }

    @Says(at = "Terms", text = "3, name: the entry is gone.")
    static void theEntryIsGone() {
        Asked x = mounted();
        x.write(0, 99, 0, 0).is(0);
        x.remove(0, 99).is(0);
        x.bytes(0, 8, 2, 3, 99, 0, 255);
        x.kind(0, 99).is(0);
        x.mountAgain();
        x.kind(0, 99).is(0);
        x.names(0);
    }

    @Says(at = "Terms", text = "4, q, name: a MARK: the entry of that name in the folder of pair q is to go.")
    static void theMarkedEntryIsToGo() {
        Asked x = cutMove(9);
        x.bytes(4, 3, 7, 1, 8, 1, 77, 4, 1, 9, 0, 255);
        x.bytes(2, 3, 4, 1, 9, 1, 77, 0, 255);
        x.mount().is(0);
        x.bytes(2, 9, 2, 3, 9, 0, 255);
        x.names(1);
        x.names(2, 8);
        // The mark of an entry of the root names pair 0.
        x.write(0, 99, 0, 0).is(0);
        x.cut(8);
        x.rename(0, 99, 2, 7).is(-9);
        x.bytes(4, 15, 6, 1, 7, 0, 4, 0, 99, 0, 255);
        x.mountAgain();
        x.names(0, 1, 2);
        x.names(2, 8, 7);
    }

    @Says(at = "Terms", text = "5: no mark.")
    static void theMarkIsTakenAway() {
        Asked x = cutMove(15);
        x.bytes(4, 12, 1, 5, 255, 255);
        x.mount().is(0);
        x.bytes(5, 0, 1, 4, 1, 8, 1, 77, 0, 255);
        int units = x.units().value();
        x.mountAgain();
        x.units().is(units);
        Asked y = twoFolders();
        y.write(1, 9, 1, 77).is(0);
        y.rename(1, 9, 2, 8).is(0);
        y.bytes(4, 12, 1, 5, 0, 255);
        units = y.units().value();
        y.mountAgain();
        y.units().is(units);
    }

    // FOLDER

    @Says(at = "Terms", text = "A FOLDER has a list of at most 4 ENTRIES")
    static void aFolderHasAtMostFourEntries() {
        Asked x = fourEntries();
        x.names(0, 1, 2, 3, 4);
        x.write(1, 5, 0, 0).is(0);
        x.write(0, 5, 0, 0).is(-3);
        x.make(0, 5).is(-3);
        x.rename(1, 5, 0, 5).is(-3);
        x.mountAgain();
        x.names(0, 1, 2, 3, 4);
        x.write(0, 5, 0, 0).is(-3);
        x.remove(0, 1).is(0);
        x.rename(1, 5, 0, 5).is(0);
        x.names(0, 2, 3, 4, 5);
        x.make(0, 6).is(-3);
    }

    @Says(at = "Terms", text = "each with a NAME 1 .. 99")
    static void aNameIs1To99() {
        Asked x = twoFolders();
        x.write(1, 1, 0, 0).is(0);
        x.write(1, 99, 0, 0).is(0);
        x.make(2, 1).is(3);
        x.make(2, 99).is(4);
        x.rename(1, 1, 3, 1).is(0);
        x.rename(1, 99, 3, 99).is(0);
        x.names(3, 1, 99);
        for (int name : new int[] {0, 100, -1, 255, 257, 355, Integer.MIN_VALUE, Integer.MAX_VALUE}) {
            x.write(1, name, 0, 0).is(-1);
            x.make(1, name).is(-1);
            x.rename(3, 1, 1, name).is(-1);
            x.rename(3, 1, 3, name).is(-1);
        }
        x.names(1);
        x.names(3, 1, 99);
    }

    @Says(at = "Terms", text = "1 and 2 put the entry in the place of the one with that name, or, if there is none, at the end")
    static void anEntryTakesThePlaceOfItsNameOrStandsAtTheEnd() {
        Asked x = mounted();
        for (int name = 40; name > 0; name -= 10) {
            x.write(0, name, 1, name).is(0);
        }
        for (int name = 10; name <= 40; name += 10) {
            x.write(0, name, 2, 0x0101 * name).is(0);
            x.names(0, 40, 30, 20, 10);
            x.file(0, name, 2, 0x0101 * name);
        }
        x.mountAgain();
        x.names(0, 40, 30, 20, 10);
        x.file(0, 40, 2, 0x0101 * 40);
        x.file(0, 10, 2, 0x0101 * 10);
        x.remove(0, 30).is(0);
        x.make(0, 30).is(1);
        x.names(0, 40, 20, 10, 30);
        x.mountAgain();
        x.names(0, 40, 20, 10, 30);
    }

    @Says(at = "Terms", text = "3 takes the entry out (the others close up)")
    static void theOthersCloseUp() {
        for (int gone = 1; gone <= 4; gone++) {
            Asked x = fourEntries();
            x.remove(0, gone).is(0);
            closedUp(x, gone);
            x.mountAgain();
            closedUp(x, gone);
            x.write(0, 9, 0, 0).is(0);
            x.entry(0, 3).is(9);
        }
        Asked x = mounted();
        x.write(0, 1, 0, 0).is(0);
        x.remove(0, 1).is(0);
        x.names(0);
        x.mountAgain();
        x.names(0);
    }

    private static void closedUp(Asked x, int gone) {
        int k = 0;
        for (int name = 1; name <= 4; name++) {
            if (name != gone) {
                x.entry(0, k).is(name);
                k++;
            }
        }
        x.entry(0, 3).is(0);
        x.kind(0, gone).is(0);
        if (gone != 1) {
            x.file(0, 1, 1, 11);
        }
        if (gone != 2) {
            x.folder(0, 2, 1);
        }
        if (gone != 3) {
            x.file(0, 3, 0, 0);
        }
        if (gone != 4) {
            x.file(0, 4, 6, 0x060504030201L);
        }
    }

    @Says(at = "Terms", text = "It is what comes of the operations of the records of its pair's active block that count, in order")
    static void theRecordsAreReadInOrder() {
        Asked x = mounted();
        x.write(0, 1, 1, 11).is(0);
        x.write(0, 2, 1, 22).is(0);
        x.remove(0, 1).is(0);
        x.make(0, 1).is(1);
        x.rename(0, 2, 0, 3).is(0);
        x.write(0, 2, 1, 23).is(0);
        x.rename(0, 2, 0, 3).is(0);
        x.mountAgain();
        x.names(0, 1, 3);
        x.folder(0, 1, 1);
        x.file(0, 3, 1, 23);
    }

    @Says(at = "Terms", text = "from an empty list without mark")
    static void aLogIsReadFromAnEmptyListWithoutMark() {
        Asked x = fourEntries();
        x.mount().is(0);
        x.mount().is(0);
        x.names(0, 1, 2, 3, 4);
        // The list that is known must not outlive a log that is begun anew.
        x.format().is(0);
        x.mount().is(0);
        x.names(0);
        x.make(0, 5).is(1);
        x.names(1);
        // What folder 1 held before a commit that was cut off must not be there either.
        x.cut(2);
        x.write(1, 6, 0, 0).is(-9);
        x.mountAgain();
        x.names(1);
    }

    // COMMIT

    @Says(at = "Terms", text = "END is the offset behind the last record that counts.")
    static void endIsBehindTheLastRecordThatCounts() {
        Asked x = mounted();
        x.write(0, 1, 0, 0).is(0);
        x.bytes(0, 3, 3, 1, 1, 0, 0, 255);
        x.write(0, 2, 0, 0).is(0);
        x.bytes(0, 8, 3, 1, 2, 0, 0, 255);
        x.mountAgain();
        x.write(0, 3, 0, 0).is(0);
        x.bytes(0, 13, 3, 1, 3, 0, 0, 255);
        // Cut off before its first unit, a record leaves END where it was.
        x.cut(0);
        x.write(0, 4, 0, 0).is(-9);
        x.mountAgain();
        x.remove(0, 3).is(0);
        x.bytes(0, 18, 2, 3, 3, 0, 255);
        tear(x, 0, 1);
        x.write(0, 1, 0, 0).is(0);
        x.bytes(1, 0, 1, 6, 1, 1, 0, 1, 2, 0, 0, 255);
        x.write(0, 1, 1, 7).is(0);
        x.bytes(1, 9, 4, 1, 1, 1, 7, 0, 255);
    }

    private interface Change {
        Asked.Answer on(Asked x);
    }

    /** A record of that many bytes is programmed where 64 - bytes is END, and no more where END is one higher. */
    private static void fitsExactly(int bytes, int answer, Change change) {
        Asked x = filledTo(64 - bytes);
        change.on(x).is(answer);
        due.holds("programmed at END", x.byteAt(0, 64 - bytes).value() == bytes - 2);
        x.byteAt(0, 63).is(0);
        x.wear(1).is(0);
        x.mountAgain();
        Asked y = filledTo(65 - bytes);
        change.on(y).is(answer);
        y.byteAt(0, 65 - bytes).is(255);
        y.wear(1).is(1);
        y.byteAt(1, 0).is(1);
        y.mountAgain();
        for (int k = 0; k < 3; k++) {
            y.entry(0, k).is(x.entry(0, k).value());
        }
    }

    @Says(at = "Terms", text = "If END + L + 2 is at most 64")
    static void aRecordUpToTheLastByteFitsAndOneMoreDoesNot() {
        fitsExactly(5, 0, x -> x.write(0, 2, 0, 0));
        fitsExactly(6, 0, x -> x.write(0, 1, 1, 7));
        fitsExactly(11, 0, x -> x.write(0, 2, 6, -2));
        fitsExactly(4, 0, x -> x.remove(0, 1));
        fitsExactly(5, 1, x -> x.make(0, 2));
    }

    @Says(at = "Terms", text = "If END + L + 2 is at most 64")
    static void aRenameUpToTheLastByteFitsAndOneMoreDoesNot() {
        for (int n = 0; n <= 6; n++) {
            int bytes = 7 + n;
            int content = n == 0 ? 0 : 5;
            Asked x = mounted();
            x.write(0, 1, n, content).is(0);
            fill(x, 0, 2, 8 + n, 64 - bytes);
            x.rename(0, 1, 0, 3).is(0);
            x.bytes(0, 64 - bytes, bytes - 2, 3, 1, 1, 3, n);
            x.byteAt(0, 63).is(0);
            x.wear(1).is(0);
            Asked y = mounted();
            y.write(0, 1, n, content).is(0);
            fill(y, 0, 2, 8 + n, 65 - bytes);
            y.rename(0, 1, 0, 3).is(0);
            y.byteAt(0, 65 - bytes).is(255);
            y.wear(1).is(1);
            y.names(0, 2, 3);
            y.file(0, 3, n, content);
        }
    }

    /** The root's log ends at this offset; folder 1 has the file 9 without bytes. */
    private static Asked moveInto(int end) {
        Asked x = mounted();
        x.make(0, 5).is(1);
        x.write(1, 9, 0, 0).is(0);
        fill(x, 0, 1, 8, end);
        return x;
    }

    @Says(at = "Terms", text = "If END + L + 2 is at most 64")
    static void aMoveUpToTheLastByteFitsAndOneMoreDoesNot() {
        Asked both = moveInto(53);
        both.rename(1, 9, 0, 9).is(0);
        both.bytes(0, 53, 6, 1, 9, 0, 4, 1, 9, 0, 1, 5, 0);
        both.wear(1).is(0);
        Asked one = moveInto(54);
        one.rename(1, 9, 0, 9).is(0);
        one.bytes(0, 54, 6, 1, 9, 0, 4, 1, 9, 0, 255, 255);
        one.bytes(1, 0, 1);
        one.wear(1).is(1);
        one.names(0, 5, 1, 9);
        Asked last = moveInto(56);
        last.rename(1, 9, 0, 9).is(0);
        last.bytes(0, 56, 6, 1, 9, 0, 4, 1, 9, 0);
        last.wear(1).is(1);
        Asked none = moveInto(57);
        none.rename(1, 9, 0, 9).is(0);
        none.bytes(0, 57, 255);
        none.wear(1).is(1);
        none.names(0, 5, 1, 9);
    }

    @Says(at = "Terms", text = "and the byte at END is 255, the record is programmed at END.")
    static void behindATornRecordTheLogIsWrittenAnew() {
        for (int k = 0; k < 6; k++) {
            Asked x = mounted();
            x.make(0, 3).is(1);
            x.cut(k);
            x.write(0, 4, 1, 9).is(-9);
            x.mountAgain();
            x.names(0, 3);
            x.remove(0, 3).is(0);
            if (k == 0) {
                x.bytes(0, 8, 2, 3, 3, 0, 255);
                x.wear(1).is(0);
            } else {
                x.byteAt(0, 8).is(4);
                x.bytes(1, 0, 1, 0, 0, 255);
            }
            x.names(0);
        }
    }

    @Says(at = "Terms", text = "Folders and small files stand in logs that are only ever added to")
    static void aCommitLeavesTheBytesBeforeEndAsTheyWere() {
        int[] log = {0, 0, 0, 4, 1, 1, 1, 11, 0, 3, 1, 1, 0, 0, 2, 3, 1, 0};
        Asked x = mounted();
        x.write(0, 1, 1, 11).is(0);
        x.bytes(0, 0, Arrays.copyOf(log, 9));
        x.write(0, 1, 0, 0).is(0);
        x.bytes(0, 0, Arrays.copyOf(log, 14));
        x.remove(0, 1).is(0);
        x.bytes(0, 0, log);
        x.byteAt(0, log.length).is(255);
        x.wear(0).is(1);
        x.wear(1).is(0);
    }

    @Says(at = "Terms", text = "a log that is full is written anew, shorter, into the other block of its pair")
    static void aFullLogIsWrittenAnewIntoTheOtherBlockAndBack() {
        Asked x = filledTo(64);
        x.wear(1).is(0);
        x.write(0, 1, 0, 0).is(0);
        x.bytes(1, 0, 1, 3, 1, 1, 0, 0, 255);
        x.bytes(0, 0, 0, 0, 0, 9);
        fill(x, 0, 1, 6, 64);
        x.wear(0).is(1);
        x.write(0, 1, 0, 0).is(0);
        x.bytes(0, 0, 2, 3, 1, 1, 0, 0, 255);
        x.byteAt(0, 63).is(255);
        x.wear(0).is(2);
        x.wear(1).is(1);
    }

    @Says(at = "Terms", text = "the other block of the pair is erased (also if it is erased already)")
    static void theOtherBlockIsErasedAlsoIfItIsErasedAlready() {
        Asked x = filledTo(64);
        x.bytes(1, 0, 255, 255);
        int units = x.units().value();
        x.write(0, 1, 0, 0).is(0);
        x.units().is(units + 1 + 1 + 5);
        x.wear(1).is(1);
        Asked y = filledTo(64);
        y.cut(1);
        y.write(0, 1, 0, 0).is(-9);
        y.wear(1).is(1);
        y.mountAgain();
        y.write(0, 1, 0, 0).is(0);
        y.wear(1).is(2);
        y.wear(0).is(1);
    }

    @Says(at = "Terms", text = "byte 0 of it becomes the active block's revision + 1, & 255")
    static void theRevisionGoesUpBy1AndRound() {
        Asked x = fresh();
        for (int i = 0; i <= 256; i++) {
            x.format().is(0);
            if (i < 3 || i > 253 || i >= 126 && i <= 129) {
                x.byteAt(i % 2, 0).is(i & 255);
            }
        }
        x.units().is(4 * 257);
        x.wear(0).is(129);
        x.wear(1).is(128);
        x.mount().is(0);
        x.write(0, 1, 0, 0).is(0);
        tear(x, 0, 1);
        x.write(0, 1, 0, 0).is(0);
        x.byteAt(1, 0).is(1);
    }

    @Says(at = "Terms", text = "behind it comes one record with the operations 1 and 2 of the list after the change, in order")
    static void aLogWrittenAnewHoldsTheListAfterTheChange() {
        Asked over = fourEntries();
        tear(over, 0, 1);
        over.write(0, 1, 2, 0x0D0C).is(0);
        over.bytes(1, 0, 1, 20, 1, 1, 2, 12, 13, 2, 2, 1, 1, 3, 0, 1, 4, 6, 1, 2, 3, 4, 5, 6, 0, 255);
        Asked gone = fourEntries();
        tear(gone, 0, 1);
        gone.remove(0, 2).is(0);
        gone.bytes(1, 0, 1, 16, 1, 1, 1, 11, 1, 3, 0, 1, 4, 6, 1, 2, 3, 4, 5, 6, 0, 255);
        Asked added = fourEntries();
        added.remove(0, 1).is(0);
        tear(added, 0, 3);
        added.make(0, 5).is(2);
        added.bytes(1, 0, 1, 18, 2, 2, 1, 1, 3, 0, 1, 4, 6, 1, 2, 3, 4, 5, 6, 2, 5, 2, 0, 255);
        Asked named = fourEntries();
        tear(named, 0, 1);
        named.rename(0, 2, 0, 9).is(0);
        named.bytes(1, 0, 1, 19, 1, 1, 1, 11, 1, 3, 0, 1, 4, 6, 1, 2, 3, 4, 5, 6, 2, 9, 1, 0, 255);
        Asked empty = mounted();
        empty.write(0, 1, 0, 0).is(0);
        tear(empty, 0, 1);
        empty.remove(0, 1).is(0);
        empty.bytes(1, 0, 1, 0, 0, 255);
    }

    @Says(at = "Terms", text = "and then 4 if it has a mark after the change")
    static void aLogWrittenAnewHoldsTheMarkOfTheChange() {
        Asked x = twoFolders();
        x.write(1, 9, 1, 77).is(0);
        x.write(2, 5, 0, 0).is(0);
        tear(x, 2, 5);
        x.cut(2 + 12);
        x.rename(1, 9, 2, 8).is(-9);
        x.bytes(5, 0, 1, 10, 1, 5, 0, 1, 8, 1, 77, 4, 1, 9, 0, 255);
        x.mountAgain();
        x.names(1);
        x.names(2, 5, 8);
        x.bytes(5, 13, 1, 5, 0, 255);
    }

    @Says(at = "Terms", text = "and then 4 if it has a mark after the change")
    static void aLogWrittenAnewHoldsNoMarkAfterOperation5() {
        Asked x = cutMove(14);
        x.byteAt(4, 12).is(1);
        x.mount().is(0);
        x.bytes(5, 0, 1, 4, 1, 8, 1, 77, 0, 255);
    }

    // BEGIN

    @Says(at = "Terms", text = "if one of its blocks counts, its log is written anew as if the list were empty without mark")
    static void aPairThatCountsIsBegunInItsOtherBlock() {
        Asked x = mounted();
        x.write(0, 1, 0, 0).is(0);
        x.format().is(0);
        x.bytes(1, 0, 1, 0, 0, 255);
        x.bytes(0, 0, 0, 0, 0, 3);
        x.wear(0).is(1);
        x.wear(1).is(1);
        // Now both count, and the newer is block 1.
        x.format().is(0);
        x.bytes(0, 0, 2, 0, 0, 255);
        x.bytes(1, 0, 1);
        x.wear(0).is(2);
        Asked y = mounted();
        y.make(0, 1).is(1);
        y.remove(0, 1).is(0);
        y.make(0, 2).is(1);
        y.bytes(3, 0, 1, 0, 0, 255);
        y.remove(0, 2).is(0);
        y.make(0, 3).is(1);
        y.bytes(2, 0, 2, 0, 0, 255);
        y.names(1);
    }

    @Says(at = "Terms", text = "if one of its blocks counts, its log is written anew as if the list were empty without mark")
    static void aPairThatIsBegunKeepsNeitherItsListNorItsMark() {
        Asked x = cutMove(9);
        x.format().is(0);
        x.mount().is(0);
        x.make(0, 1).is(1);
        x.bytes(3, 0, 1, 0, 0, 255);
        x.make(0, 2).is(2);
        x.bytes(5, 0, 1, 0, 0, 255);
        x.names(1);
        x.names(2);
        int units = x.units().value();
        x.mountAgain();
        x.units().is(units);
        x.names(1);
        x.names(2);
        // The mark of the root is gone with its list.
        Asked y = mounted();
        y.make(0, 1).is(1);
        y.write(1, 2, 0, 0).is(0);
        y.cut(8);
        y.rename(1, 2, 0, 3).is(-9);
        y.on();
        y.format().is(0);
        y.bytes(1, 0, 1, 0, 0, 255);
        units = y.units().value();
        y.mount().is(0);
        y.units().is(units);
    }

    @Says(at = "Terms", text = "if none does, block 2q is erased, its byte 0 becomes 0, and a record with L = 0 follows")
    static void aPairThatDoesNotCountIsBegunInBlock2q() {
        Asked x = eightFolders();
        for (int q = 0; q < 8; q++) {
            x.bytes(2 * q, 0, 0, 0, 0);
            x.wear(2 * q).is(1);
            x.wear(2 * q + 1).is(0);
        }
        for (int k = 0; k < 4; k++) {
            Asked y = fresh();
            y.cut(k);
            y.format().is(-9);
            y.on();
            y.format().is(0);
            y.bytes(0, 0, 0, 0, 0, 255);
            y.wear(0).is(k == 0 ? 1 : 2);
            y.wear(1).is(0);
            y.mount().is(0);
            y.cut(k);
            y.make(0, 1).is(-9);
            y.mountAgain();
            y.make(0, 1).is(1);
            y.bytes(2, 0, 0, 0, 0, 255);
            y.wear(2).is(k == 0 ? 1 : 2);
            y.wear(3).is(0);
        }
    }

    // THERE and FREE

    @Says(at = "Terms", text = "The folder of pair 0 is the ROOT.")
    static void theRootIsFolder0AndIsNeverFree() {
        Asked x = mounted();
        x.names(0);
        x.make(0, 1).is(1);
        x.remove(0, 1).is(0);
        x.names(0);
        x.free().is(7);
        x.make(0, 1).is(1);
        x.bytes(0, 3, 3, 2, 1, 1, 0, 2, 3, 1, 0, 3, 2, 1, 1, 0, 255);
    }

    @Says(at = "Terms", text = "folder q is THERE if it is the root or an entry of a folder that is there")
    static void aFolderIsThereIfItIsReachedFromTheRoot() {
        Asked x = mounted();
        x.entry(0, 0).is(0);
        for (int q = 1; q < 8; q++) {
            x.entry(q, 0).is(-1);
            x.make(q - 1, 1).is(q);
            x.entry(q, 0).is(0);
        }
        x.mountAgain();
        for (int q = 0; q < 8; q++) {
            x.entry(q, 0).is(q < 7 ? 1 : 0);
        }
        x.remove(6, 1).is(0);
        x.entry(7, 0).is(-1);
        x.entry(6, 0).is(0);
        x.format().is(0);
        x.mount().is(0);
        for (int q = 1; q < 8; q++) {
            x.entry(q, 0).is(-1);
        }
    }

    @Says(at = "Terms", text = "folder q is THERE if it is the root or an entry of a folder that is there")
    static void aFolderIsNotThereBeforeItsEntryCounts() {
        // Four units begin the pair, four of five put the entry without its seal.
        for (int k = 0; k < 9; k++) {
            Asked x = mounted();
            x.cut(k);
            x.make(0, 1).is(-9);
            x.mountAgain();
            x.entry(1, 0).is(-1);
            x.free().is(7);
        }
        Asked x = mounted();
        x.cut(9);
        x.make(0, 1).is(1);
        x.mountAgain();
        x.entry(1, 0).is(0);
        x.free().is(6);
    }

    @Says(at = "Terms", text = "folder q is THERE if it is the root or an entry of a folder that is there")
    static void aFolderThatIsMovedIsThereWithAllThatIsInIt() {
        Asked x = twoFolders();
        x.make(1, 3).is(3);
        x.make(3, 4).is(4);
        x.rename(0, 1, 2, 1).is(0);
        for (int q = 0; q < 5; q++) {
            due.holds("folder " + q + " is there", x.entry(q, 0).value() >= 0);
        }
        x.free().is(3);
        // Four folders in one, and none of them the last in a row.
        Asked y = mounted();
        for (int q = 1; q <= 4; q++) {
            y.make(0, q).is(q);
        }
        y.make(4, 1).is(5);
        y.make(1, 1).is(6);
        y.make(6, 1).is(7);
        y.free().is(0);
        y.mountAgain();
        y.free().is(0);
        for (int q = 0; q < 8; q++) {
            due.holds("folder " + q + " is there", y.entry(q, 0).value() >= 0);
        }
    }

    @Says(at = "Terms", text = "A pair is FREE if its folder is not there.")
    static void aPairIsFreeIfItsFolderIsNotThere() {
        Asked x = mounted();
        x.free().is(7);
        for (int q = 1; q < 8; q++) {
            x.make(q - 1, 1).is(q);
            x.free().is(7 - q);
        }
        x.make(7, 1).is(-4);
        x.remove(6, 1).is(0);
        x.free().is(1);
        x.make(0, 2).is(7);
        x.free().is(0);
    }

    @Says(at = "Terms", text = "Nothing is mounted at first; the power is on.")
    static void nothingIsMountedAtFirstAndThePowerIsOn() {
        Asked x = fresh();
        x.off().is(0);
        allRefused(x, -8);
        x.off().is(0);
    }

    // Answers below 0

    @Says(at = "Terms", text = "-9 the power is off, or went off in this call (then nothing is mounted and no more is done)")
    static void whileThePowerIsOffEveryCallAnswersMinus9() {
        Asked x = fourEntries();
        x.cut(0);
        x.make(1, 1).is(-9);
        int units = x.units().value();
        allRefused(x, -9);
        allAnswer(x, -9);
        x.format().is(-9);
        x.mount().is(-9);
        x.off().is(1);
        x.units().is(units);
    }

    @Says(at = "Terms", text = "went off in this call (then nothing is mounted and no more is done)")
    static void whenThePowerGoesOffNothingIsMounted() {
        Change[] changes = {
            x -> x.make(0, 5), x -> x.write(0, 1, 0, 0), x -> x.remove(0, 1), x -> x.rename(0, 1, 0, 5),
            x -> x.rename(0, 1, 1, 5), x -> x.format(),
        };
        for (Change change : changes) {
            Asked x = fourEntries();
            x.remove(0, 3).is(0);
            x.cut(2);
            change.on(x).is(-9);
            x.off().is(1);
            allRefused(x, -9);
            x.on();
            allRefused(x, -8);
        }
        Asked x = cutMove(9);
        x.cut(2);
        x.mount().is(-9);
        x.off().is(1);
        x.on();
        allRefused(x, -8);
    }

    @Says(at = "Terms", text = "went off in this call (then nothing is mounted and no more is done)")
    static void whenThePowerGoesOffNoMoreIsDone() {
        Asked begun = mounted();
        begun.cut(4);
        begun.make(0, 1).is(-9);
        begun.bytes(2, 0, 0, 0, 0, 255);
        begun.bytes(0, 3, 255);
        begun.units().is(8);
        Asked torn = mounted();
        torn.cut(3);
        torn.make(0, 1).is(-9);
        torn.bytes(0, 3, 255);
        torn.units().is(7);
        Asked marked = cutMove(9);
        marked.bytes(2, 9, 255);
        marked.bytes(4, 12, 255);
        Asked early = cutMove(8);
        early.bytes(2, 9, 255);
        Asked gone = cutMove(13);
        gone.bytes(2, 9, 2, 3, 9, 0, 255);
        gone.bytes(4, 12, 255);
        Asked late = cutMove(12);
        late.bytes(2, 9, 2, 3, 9, 255);
        late.bytes(4, 12, 255);
        late.cut(2);
        late.mount().is(-9);
        late.bytes(4, 12, 255);
    }

    @Says(at = "Terms", text = "-8 nothing is mounted")
    static void untilItIsMountedEveryCallAnswersMinus8() {
        Asked x = fresh();
        allRefused(x, -8);
        x.mount().is(-7);
        allRefused(x, -8);
        x.format().is(0);
        allRefused(x, -8);
        x.mount().is(0);
        x.free().is(7);
        x.on();
        allRefused(x, -8);
        x.mount().is(0);
        x.format().is(0);
        allRefused(x, -8);
    }

    @Says(at = "Terms", text = "-1 a number is not as said, or there is no such folder or name")
    static void aFolderThatIsNotThereAnswersMinus1() {
        for (int d : NO_FOLDERS) {
            Asked x = twoFolders();
            x.write(0, 3, 0, 0).is(0);
            x.make(d, 1).is(-1);
            x.write(d, 1, 0, 0).is(-1);
            x.remove(d, 1).is(-1);
            x.rename(d, 3, 0, 4).is(-1);
            x.rename(0, 3, d, 4).is(-1);
            x.rename(d, 3, d, 3).is(-1);
            x.entry(d, 0).is(-1);
            x.kind(d, 1).is(-1);
            x.size(d, 1).is(-1);
            x.data(d, 1).is(-1);
            x.child(d, 1).is(-1);
        }
    }

    @Says(at = "Terms", text = "-2 the name is taken")
    static void aTakenNameAnswersMinus2() {
        Asked x = fourEntries();
        x.make(1, 2).is(2);
        x.make(0, 1).is(-2);
        x.make(0, 2).is(-2);
        x.write(0, 2, 0, 0).is(-2);
        x.rename(0, 1, 0, 2).is(-2);
        x.rename(0, 1, 1, 2).is(-2);
        x.rename(1, 2, 0, 1).is(-2);
        x.rename(1, 2, 0, 2).is(-2);
        x.names(0, 1, 2, 3, 4);
        x.names(1, 2);
    }

    @Says(at = "Terms", text = "-3 the folder has 4 entries")
    static void aFolderWithFourEntriesAnswersMinus3() {
        Asked x = fourEntries();
        x.write(1, 5, 0, 0).is(0);
        x.make(0, 5).is(-3);
        x.write(0, 5, 0, 0).is(-3);
        x.rename(1, 5, 0, 5).is(-3);
        x.remove(0, 3).is(0);
        x.rename(1, 5, 0, 5).is(0);
        x.make(0, 6).is(-3);
    }

    @Says(at = "Terms", text = "-4 no pair is free")
    static void withoutAFreePairMakeAnswersMinus4() {
        Asked x = eightFolders();
        for (int d = 0; d < 8; d++) {
            x.make(d, 2).is(-4);
        }
        x.mountAgain();
        x.make(7, 2).is(-4);
        x.remove(6, 1).is(0);
        x.make(6, 2).is(7);
    }

    @Says(at = "Terms", text = "-5 the folder is not empty")
    static void aFolderThatIsNotEmptyAnswersMinus5() {
        Asked x = eightFolders();
        for (int d = 0; d < 6; d++) {
            x.remove(d, 1).is(-5);
        }
        x.write(7, 1, 0, 0).is(0);
        x.remove(6, 1).is(-5);
        x.mountAgain();
        x.remove(6, 1).is(-5);
        x.remove(7, 1).is(0);
        for (int d = 6; d >= 0; d--) {
            x.remove(d, 1).is(0);
        }
        x.free().is(7);
    }

    @Says(at = "Terms", text = "-6 a folder would come into itself")
    static void aFolderThatWouldComeIntoItselfAnswersMinus6() {
        Asked x = eightFolders();
        for (int d = 0; d < 7; d++) {
            x.rename(d, 1, d + 1, 2).is(-6);
            x.rename(d, 1, 7, 2).is(-6);
        }
        x.mountAgain();
        x.rename(0, 1, 7, 2).is(-6);
        x.rename(6, 1, 0, 2).is(0);
        x.rename(0, 1, 7, 2).is(0);
        x.rename(0, 2, 6, 2).is(-6);
    }

    @Says(at = "Terms", text = "-7 pair 0 has no block that counts")
    static void withoutARootThatCountsMountAnswersMinus7() {
        Asked x = fresh();
        x.mount().is(-7);
        x.off().is(0);
        x.cut(3);
        x.format().is(-9);
        x.mount().is(-9);
        x.on();
        x.mount().is(-7);
        x.format().is(0);
        x.mount().is(0);
    }

    @Says(at = "Terms", text = "Of these the first counts in the order -9 (off before the call), -8, -1, and then in the order told at the call")
    static void minus9ComesBeforeMinus8BeforeMinus1() {
        Asked x = fresh();
        allAnswer(x, -8);
        x.format().is(0);
        x.mount().is(0);
        allAnswer(x, -1);
        x.cut(0);
        x.make(0, 1).is(-9);
        allAnswer(x, -9);
        x.on();
        allAnswer(x, -8);
        Asked y = fresh();
        y.cut(0);
        y.format().is(-9);
        y.mount().is(-9);
    }

    @Says(at = "Terms", text = "Of these the first counts in the order -9 (off before the call), -8, -1, and then in the order told at the call")
    static void minus1ComesBeforeWhatIsToldAtTheCall() {
        Asked x = eightFolders();
        x.write(0, 2, 0, 0).is(0);
        x.write(0, 3, 0, 0).is(0);
        x.write(0, 4, 0, 0).is(0);
        x.make(0, 0).is(-1);
        x.make(7, 100).is(-1);
        x.write(0, 1, 7, 0).is(-1);
        x.write(0, 1, -1, 0).is(-1);
        x.write(0, 100, 0, 0).is(-1);
        x.rename(0, 1, 1, 100).is(-1);
        x.rename(1, 1, 0, 0).is(-1);
        x.rename(0, 5, 0, 1).is(-1);
    }

    @Says(at = "Terms", text = "Of these the first counts in the order -9 (off before the call), -8, -1, and then in the order told at the call")
    static void aCallIsRefusedAlsoWhenItsFirstUnitWouldPutThePowerOff() {
        Asked x = fourEntries();
        x.write(1, 5, 0, 0).is(0);
        x.cut(0);
        refusedCalls(x);
        allAnswer(x, -1);
        x.rename(0, 1, 0, 1).is(0);
        x.mount().is(0);
        x.off().is(0);
        x.write(0, 1, 0, 0).is(-9);
        x.off().is(1);
    }

    /** Calls on fourEntries() with a file 5 in folder 1 that are refused with -2, -3, -5 and -6. */
    private static void refusedCalls(Asked x) {
        x.make(0, 1).is(-2);
        x.make(0, 5).is(-3);
        x.write(0, 2, 0, 0).is(-2);
        x.write(0, 5, 0, 0).is(-3);
        x.remove(0, 2).is(-5);
        x.rename(0, 1, 0, 2).is(-2);
        x.rename(1, 5, 0, 5).is(-3);
        x.rename(0, 2, 1, 6).is(-6);
    }

    @Says(at = "Terms", text = "a call refused so changes nothing")
    static void aRefusedCallChangesNothing() {
        int[] before = flashAfter(x -> {
            fourEntriesOf(x);
            x.write(1, 5, 0, 0).is(0);
        });
        sameFlash("after refused calls", flashAfter(x -> {
            fourEntriesOf(x);
            x.write(1, 5, 0, 0).is(0);
            int units = x.units().value();
            refusedCalls(x);
            allAnswer(x, -1);
            x.units().is(units);
            x.wear(0).is(1);
            x.wear(1).is(0);
            x.off().is(0);
            x.names(0, 1, 2, 3, 4);
            x.names(1, 5);
            x.free().is(6);
            x.on();
            allRefused(x, -8);
        }), before);
        // The calls that are refused next find what they would have found before.
        Asked x = fourEntries();
        x.write(1, 5, 0, 0).is(0);
        refusedCalls(x);
        refusedCalls(x);
        x.file(0, 1, 1, 11);
        x.folder(0, 2, 1);
        x.file(0, 4, 6, 0x060504030201L);
        x.mountAgain();
        x.names(0, 1, 2, 3, 4);
        x.names(1, 5);
    }

    @Says(at = "Terms", text = "a call refused so changes nothing")
    static void aCallRefusedForWantOfAPairChangesNothing() {
        Asked x = eightFolders();
        int units = x.units().value();
        x.cut(0);
        x.make(7, 1).is(-4);
        x.make(0, 2).is(-4);
        x.units().is(units);
        x.off().is(0);
        x.names(7);
        x.names(0, 1);
        x.free().is(0);
    }

    @Says(at = "Terms", text = "Questions use no units.")
    static void questionsUseNoUnits() {
        Asked x = fourEntries();
        int units = x.units().value();
        x.cut(0);
        x.names(0, 1, 2, 3, 4);
        x.file(0, 1, 1, 11);
        x.folder(0, 2, 1);
        x.free().is(6);
        x.off().is(0);
        x.byteAt(0, 0).is(0);
        x.wear(0).is(1);
        x.units().is(units);
        x.off().is(0);
        x.write(0, 1, 0, 0).is(-9);
        x.units().is(units);
    }

    @Says(at = "Terms", text = "The list of a folder that is there is always what comes of its log; mounting reads it from there.")
    static void theListIsWhatComesOfTheLog() {
        Change[] changes = {
            x -> x.write(0, 1, 2, 0x0101), x -> x.remove(0, 3), x -> x.rename(0, 4, 1, 4), x -> x.rename(0, 1, 0, 3),
            x -> x.rename(0, 2, 0, 7), x -> x.write(1, 9, 0, 0), x -> x.rename(1, 9, 1, 4), x -> x.remove(1, 4),
        };
        for (int last = 0; last < changes.length; last++) {
            Asked x = fourEntries();
            for (int i = 0; i <= last; i++) {
                changes[i].on(x).is(0);
            }
            int[] known = lists(x);
            x.mountAgain();
            int[] read = lists(x);
            for (int i = 0; i < known.length; i++) {
                due.same("number " + i + " of the lists", read[i], known[i]);
            }
        }
    }

    private static int[] lists(Asked x) {
        int[] all = new int[40];
        int count = 0;
        for (int d = 0; d < 2; d++) {
            for (int k = 0; k < 4; k++) {
                int name = x.entry(d, k).value();
                all[count++] = name;
                all[count++] = x.kind(d, name).value();
                all[count++] = x.size(d, name).value();
                all[count++] = x.data(d, name).value();
                all[count++] = x.child(d, name).value();
            }
        }
        return all;
    }
}
