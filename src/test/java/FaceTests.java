import java.lang.reflect.Constructor;
import java.lang.reflect.Field;
import java.lang.reflect.Method;
import java.lang.reflect.Modifier;
import java.util.Arrays;
import java.util.Set;
import java.util.TreeSet;

// The public face is the document's, with no other member that is not private.
public final class FaceTests {
    private static final Set<String> FACE = new TreeSet<>(Arrays.asList(
        "public static final int CausalGate.NONE",
        "public CausalGate()",
        "public void CausalGate.clear()",
        "public int CausalGate.offer(int,int,long,int) throws java.lang.IllegalArgumentException,java.lang.IllegalStateException",
        "public boolean CausalGate.known(int,int)",
        "public long CausalGate.clock()",
        "public int CausalGate.through(int,int) throws java.lang.IndexOutOfBoundsException",
        "public int CausalGate.waiting(int,int) throws java.lang.IndexOutOfBoundsException",
        "public int CausalGate.ahead(long)",
        "public int CausalGate.next(long,int)",
        "public int CausalGate.compare(long)",
        "public int CausalGate.forget(int)",
        "public int CausalGate.look(int)"));

    public static void main(String[] args) {
        Set<String> found = new TreeSet<>();
        for (Field field : CausalGate.class.getDeclaredFields()) {
            addUnlessPrivate(found, field.getModifiers(), field.toString());
        }
        for (Constructor<?> constructor : CausalGate.class.getDeclaredConstructors()) {
            addUnlessPrivate(found, constructor.getModifiers(), constructor.toString());
        }
        for (Method method : CausalGate.class.getDeclaredMethods()) {
            addUnlessPrivate(found, method.getModifiers(), method.toString());
        }
        int modifiers = CausalGate.class.getModifiers();
        if (!Modifier.isPublic(modifiers) || !Modifier.isFinal(modifiers)) {
            found.add("CausalGate is not public and final");
        }
        if (!found.equals(FACE)) {
            System.out.println("found: " + found);
            System.out.println("due:   " + FACE);
            System.exit(1);
        }
        System.out.println("the face is as due");
    }

    private static void addUnlessPrivate(Set<String> found, int modifiers, String member) {
        if (!Modifier.isPrivate(modifiers)) {
            found.add(member);
        }
    }
}
