import java.io.IOException;
import java.lang.reflect.Method;
import java.nio.file.Files;
import java.nio.file.Path;
import java.util.Arrays;
import java.util.Comparator;
import java.util.function.Consumer;

/** What tests have in common that stand for one sentence of the document each. */
abstract class Sentences {
    static final Due due = new Due();

    private static final Path DOCUMENT = Path.of("../shared/DOC.md");

    /** Runs every method of the class that says a sentence, and ends the program. */
    static void run(Class<?> tests) throws IOException, ReflectiveOperationException {
        String document = Files.isReadable(DOCUMENT) ? Files.readString(DOCUMENT) : null;
        Method[] methods = tests.getDeclaredMethods();
        Arrays.sort(methods, Comparator.comparing(Method::getName));
        int sentences = 0;
        for (Method method : methods) {
            Says says = method.getAnnotation(Says.class);
            if (says == null) {
                continue;
            }
            sentences++;
            due.under(says.at() + ", '" + says.text() + "', " + method.getName());
            int before = due.asked();
            method.setAccessible(true);
            method.invoke(null);
            due.holds("it asks something", due.asked() > before);
            due.holds("the document says so", document == null || stands(document, says));
        }
        System.out.println(sentences + " tests of sentences");
        due.end();
    }

    private static boolean stands(String document, Says says) {
        for (String section : document.split("\n## ")) {
            if (section.startsWith(says.at() + ":") || section.startsWith(says.at() + "\n")) {
                return section.replaceAll("\\s+", " ").contains(says.text());
            }
        }
        return false;
    }

    static Asked fresh() {
        return new Asked(due);
    }

    static Asked mounted() {
        Asked x = fresh();
        x.format().is(0);
        x.mount().is(0);
        return x;
    }

    /** The root has the folder 1 in pair 1 and the folder 2 in pair 2; its log ends at 13, theirs at 3. */
    static Asked twoFolders() {
        Asked x = mounted();
        x.make(0, 1).is(1);
        x.make(0, 2).is(2);
        return x;
    }

    /** Each folder has the next one as its entry 1; no pair is free. */
    static Asked eightFolders() {
        Asked x = mounted();
        for (int q = 1; q < 8; q++) {
            x.make(q - 1, 1).is(q);
        }
        return x;
    }

    /** The root has 1, a file with the byte 11; 2, a folder in pair 1; 3, a file without bytes; 4, a file with six. */
    static Asked fourEntries() {
        Asked x = mounted();
        x.write(0, 1, 1, 11).is(0);
        x.make(0, 2).is(1);
        x.write(0, 3, 0, 0).is(0);
        x.write(0, 4, 6, 0x060504030201L).is(0);
        return x;
    }

    /** Brings the end of folder d's log from one offset to another by writing the file again and again. */
    static void fill(Asked x, int d, int name, int end, int wanted) {
        int rest = wanted - end;
        while (rest > 0) {
            // A record of a file has 5 to 11 bytes, so that a rest of 1 to 4 could not be filled.
            int record = rest <= 11 ? rest : Math.min(11, rest - 5);
            x.write(d, name, record - 5, 0x060504030201L).is(0);
            rest -= record;
        }
    }

    /** The root has the file 1 alone, and its log ends at the wanted offset of block 0. */
    static Asked filledTo(int wanted) {
        Asked x = mounted();
        fill(x, 0, 1, 3, wanted);
        return x;
    }

    /** Leaves a record without seal at the end of folder d's log, so that the next commit writes the log anew. */
    static void tear(Asked x, int d, int name) {
        x.cut(1);
        x.write(d, name, 0, 0).is(-9);
        x.mountAgain();
    }

    /** The move of the file 9 of folder 1 to the name 8 of folder 2, cut after k of its 9 + 4 + 3 units. */
    static Asked cutMove(int k) {
        Asked x = twoFolders();
        x.write(1, 9, 1, 77).is(0);
        x.cut(k);
        x.rename(1, 9, 2, 8).is(-9);
        x.on();
        return x;
    }

    /** The whole flash after a run, of which each block is read from an object of its own to keep to 512 calls. */
    static int[] flashAfter(Consumer<Asked> run) {
        int[] bytes = new int[16 * 64];
        for (int block = 0; block < 16; block++) {
            Asked x = fresh();
            run.accept(x);
            for (int offset = 0; offset < 64; offset++) {
                bytes[block * 64 + offset] = x.byteAt(block, offset).value();
            }
        }
        return bytes;
    }

    static void sameFlash(String what, int[] got, int[] want) {
        for (int i = 0; i < want.length; i++) {
            due.same(what + ": block " + i / 64 + ", byte " + i % 64, got[i], want[i]);
        }
    }

    /** Every call that needs a mounted tree, with numbers that are not as said: what is due is -1, -8 or -9. */
    static void allAnswer(Asked x, int want) {
        x.make(-1, 0).is(want);
        x.write(8, 1, 0, 0).is(want);
        x.write(0, 1, 7, 0).is(want);
        x.remove(8, 1).is(want);
        x.rename(0, 98, 0, 98).is(want);
        x.rename(8, 1, -1, 1).is(want);
        x.entry(8, 0).is(want);
        x.kind(-1, 1).is(want);
        x.size(8, 1).is(want);
        x.data(-1, 1).is(want);
        x.child(8, 1).is(want);
    }

    /** Every call that needs a mounted tree, with numbers that fit: what is due is -8 or -9. */
    static void allRefused(Asked x, int want) {
        x.make(0, 1).is(want);
        x.write(0, 1, 0, 0).is(want);
        x.remove(0, 1).is(want);
        x.rename(0, 1, 0, 2).is(want);
        x.entry(0, 0).is(want);
        x.kind(0, 1).is(want);
        x.size(0, 1).is(want);
        x.data(0, 1).is(want);
        x.child(0, 1).is(want);
        x.free().is(want);
    }
}
