import java.lang.reflect.Constructor;
import java.lang.reflect.Field;
import java.lang.reflect.Method;
import java.lang.reflect.Modifier;
import java.util.Arrays;
import java.util.HashSet;
import java.util.Set;
import java.util.TreeSet;

/** The public face is the document's, nothing else of the class can be seen, and it keeps to LANGUAGE.md. */
public final class FaceTest {
    public static void main(String[] args) {
        Check.due("final", Modifier.isFinal(BatchTransfer.class.getModifiers()), true);
        Check.due("NONE", BatchTransfer.NONE, -1);
        Set<String> seen = new TreeSet<>();
        Set<String> privateNames = new HashSet<>();
        Set<String> publicNames = new HashSet<>();
        for (Method m : BatchTransfer.class.getDeclaredMethods()) {
            if (Modifier.isPrivate(m.getModifiers())) {
                privateNames.add(m.getName());
            } else if (!m.isSynthetic()) {
                publicNames.add(m.getName());
                seen.add(signature(m));
            }
        }
        for (Field f : BatchTransfer.class.getDeclaredFields()) {
            if (!Modifier.isPrivate(f.getModifiers())) {
                seen.add(f.getType().getSimpleName() + " " + f.getName());
            }
        }
        for (Constructor<?> c : BatchTransfer.class.getDeclaredConstructors()) {
            seen.add("new" + Arrays.toString(c.getParameterTypes()));
        }
        Set<String> want = new TreeSet<>(Arrays.asList("int NONE", "new[]",
            "boolean feed(int, int, int, int, int)", "boolean end(int)", "int file()", "int made(int, int)",
            "boolean clear()", "boolean begin(int)", "void spoil(int, int)", "int step()", "int line()",
            "int lineAt(int) throws NoSuchElementException", "int state(int)", "int received()", "int size(int)",
            "int byteAt(int, int) throws NoSuchElementException", "int nameAt(int, int)"));
        if (!seen.equals(want)) {
            System.out.println("the face is " + seen);
        }
        Check.due("the face is the document's", seen.equals(want), true);
        privateNames.retainAll(publicNames);
        Check.due("no private method bears a public one's name", privateNames.isEmpty(), true);
        rulesOfLanguage(BatchTransfer.class);
        Check.due("at most twelve classes", BatchTransfer.class.getDeclaredClasses().length <= 11, true);
        for (Class<?> inside : BatchTransfer.class.getDeclaredClasses()) {
            Check.due(inside + " is static", Modifier.isStatic(inside.getModifiers()), true);
            Check.due(inside + " can't be seen", inside.getModifiers() & (Modifier.PUBLIC | Modifier.PROTECTED), 0);
            rulesOfLanguage(inside);
        }
        Check.finish();
    }

    /** What of LANGUAGE.md can be seen in a compiled class: rules 5 and 11. */
    private static void rulesOfLanguage(Class<?> type) {
        int fields = 0;
        for (Field f : type.getDeclaredFields()) {
            if (Modifier.isStatic(f.getModifiers())) {
                Check.due(f + " is final", Modifier.isFinal(f.getModifiers()), true);
            } else {
                fields++;
            }
        }
        Check.due(type + " has at most twenty fields", fields <= 20, true);
        for (Method m : type.getDeclaredMethods()) {
            Check.due(m + " takes at most seven", m.getParameterCount() <= 7, true);
            Check.due(m + " is not synchronized", Modifier.isSynchronized(m.getModifiers()), false);
        }
    }

    private static String signature(Method m) {
        StringBuilder text = new StringBuilder(m.getReturnType().getSimpleName() + " " + m.getName() + "(");
        String between = "";
        for (Class<?> p : m.getParameterTypes()) {
            text.append(between).append(p.getSimpleName());
            between = ", ";
        }
        text.append(")");
        for (Class<?> e : m.getExceptionTypes()) {
            text.append(" throws ").append(e.getSimpleName());
        }
        return text.toString();
    }
}
