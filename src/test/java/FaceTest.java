import java.io.IOException;
import java.lang.reflect.Constructor;
import java.lang.reflect.Field;
import java.lang.reflect.Method;
import java.lang.reflect.Modifier;
import java.nio.file.Files;
import java.nio.file.Path;
import java.util.Arrays;
import java.util.Set;
import java.util.TreeSet;
import java.util.regex.Matcher;
import java.util.regex.Pattern;

/** The public face is the document's and no more, and the source keeps to the rules that can be read off it. */
public final class FaceTest {
    private static final Set<String> FACE = Set.of(
        "void cut(int)", "boolean off()", "void on()", "int format()", "int mount()", "int make(int, int)",
        "int write(int, int, int, long)", "int remove(int, int)", "int rename(int, int, int, int)",
        "int entry(int, int)", "int kind(int, int)", "int size(int, int)", "long data(int, int)",
        "int child(int, int)", "int free()", "int byteAt(int, int)", "int wear(int)", "int units()");

    private static final Due due = new Due();

    public static void main(String[] args) throws IOException {
        face();
        nestedClasses();
        String source = Files.readString(Path.of("src/main/java/FlashTree.java"));
        asTheDocumentWritesIt(Files.readString(Path.of("../shared/DOC.md")), source);
        words(source);
        due.end();
    }

    private static void face() {
        Class<?> face = FlashTree.class;
        due.holds("public and final", Modifier.isPublic(face.getModifiers()) && Modifier.isFinal(face.getModifiers()));
        due.same("constructors", face.getDeclaredConstructors().length, 1);
        for (Constructor<?> made : face.getConstructors()) {
            due.same("parameters of the constructor", made.getParameterCount(), 0);
        }
        due.same("public constructors", face.getConstructors().length, 1);
        Set<String> found = new TreeSet<>();
        for (Method method : face.getDeclaredMethods()) {
            if (!Modifier.isPrivate(method.getModifiers())) {
                found.add(signature(method));
            }
        }
        due.holds("the methods " + found, found.equals(new TreeSet<>(FACE)));
        for (Field field : face.getDeclaredFields()) {
            due.holds("private: " + field, Modifier.isPrivate(field.getModifiers()));
        }
    }

    private static String signature(Method method) {
        String types = Arrays.toString(method.getParameterTypes());
        String how = Modifier.isPublic(method.getModifiers()) && !Modifier.isStatic(method.getModifiers()) ? "" : "not public: ";
        return how + method.getReturnType() + " " + method.getName() + "(" + types.substring(1, types.length() - 1) + ")";
    }

    private static void nestedClasses() {
        Set<String> taken = new TreeSet<>();
        for (String method : FACE) {
            taken.add(method.substring(method.indexOf(' ') + 1, method.indexOf('(')));
        }
        for (Class<?> inside : FlashTree.class.getDeclaredClasses()) {
            int modifiers = inside.getModifiers();
            due.holds("static: " + inside, Modifier.isStatic(modifiers) && !Modifier.isPublic(modifiers) && !Modifier.isProtected(modifiers));
            for (Method method : inside.getDeclaredMethods()) {
                due.holds("a name of its own: " + method, !taken.contains(method.getName()));
            }
        }
        for (Method method : FlashTree.class.getDeclaredMethods()) {
            due.holds("a name of its own: " + method,
                !Modifier.isPrivate(method.getModifiers()) || !taken.contains(method.getName()));
        }
    }

    /** Word by word, with the names of the parameters. */
    private static void asTheDocumentWritesIt(String document, String source) {
        Matcher block = Pattern.compile("(?s)## The public face\\s+```java\n(.*?)```").matcher(document);
        due.holds("the document has a face", block.find());
        Matcher member = Pattern.compile("public (.*);").matcher(block.group(1));
        int members = 0;
        while (member.find()) {
            members++;
            due.holds("the face: " + member.group(), source.contains("\n    public " + member.group(1) + " {\n"));
        }
        due.same("members of the face, with the constructor", members, FACE.size() + 1);
    }

    private static void words(String text) {
        String code = text.replaceAll("(?s)/\\*.*?\\*/", " ").replaceAll("//[^\n]*", " ");
        Matcher word = Pattern.compile("\\b(import|package|throw|throws|try|catch|synchronized|assert|"
            + "equals|hashCode|toString|Object|System|float|double|transient|volatile|native)\\b|->|::").matcher(code);
        while (word.find()) {
            due.holds("the word " + word.group() + " is not used", false);
        }
    }
}
