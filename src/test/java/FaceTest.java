import java.lang.reflect.Constructor;
import java.lang.reflect.Field;
import java.lang.reflect.Method;
import java.lang.reflect.Modifier;
import java.util.Set;
import java.util.TreeSet;

/** The class has the document's public face, and no other member that is not private; what can be seen of rules 1 and 5. */
public final class FaceTest {
    private static final Set<String> FACE = Set.of(
            "public static final int ChunkPacker.NONE",
            "public ChunkPacker()",
            "public int ChunkPacker.add(long,long)"
                    + " throws java.lang.IllegalArgumentException,java.lang.IllegalStateException",
            "public int ChunkPacker.keep(int) throws java.lang.IllegalArgumentException",
            "public int ChunkPacker.pack() throws java.lang.IllegalStateException",
            "public int ChunkPacker.unpack(int) throws java.lang.IllegalArgumentException",
            "public int ChunkPacker.taken()",
            "public int ChunkPacker.count(int) throws java.lang.IllegalArgumentException",
            "public long ChunkPacker.time(int) throws java.lang.IndexOutOfBoundsException",
            "public long ChunkPacker.value(int) throws java.lang.IndexOutOfBoundsException",
            "public boolean ChunkPacker.bit(int) throws java.lang.IndexOutOfBoundsException",
            "public void ChunkPacker.flip(int) throws java.lang.IndexOutOfBoundsException",
            "public int ChunkPacker.put(long,int)"
                    + " throws java.lang.IllegalArgumentException,java.lang.IllegalStateException",
            "public void ChunkPacker.cut(int) throws java.lang.IllegalArgumentException");

    public static void main(String[] args) {
        Check check = new Check();
        check.due("the class is public and final",
                ChunkPacker.class.getModifiers(), Modifier.PUBLIC | Modifier.FINAL);
        check.due("NONE", ChunkPacker.NONE, -1);
        Set<String> seen = visibleMembers();
        for (String member : FACE) {
            if (!seen.contains(member)) {
                check.fault("the face lacks: " + member);
            }
        }
        for (String member : seen) {
            if (!FACE.contains(member)) {
                check.fault("not of the face: " + member);
            }
        }
        for (Class<?> inside : ChunkPacker.class.getDeclaredClasses()) {
            check.due(inside.getName() + " is static", Modifier.isStatic(inside.getModifiers()), true);
            check.due(inside.getName() + " is public", Modifier.isPublic(inside.getModifiers()), false);
        }
        noOtherMethodBearsAFaceName(check);
        noStaticFieldChanges(check);
        check.end();
    }

    /** Rule 1 of ../shared/LANGUAGE.md. */
    private static void noOtherMethodBearsAFaceName(Check check) {
        Set<String> names = new TreeSet<>();
        for (Method method : ChunkPacker.class.getDeclaredMethods()) {
            if (Modifier.isPublic(method.getModifiers()) && !names.add(method.getName())) {
                check.fault("two public methods are named " + method.getName());
            }
        }
        for (Method method : ChunkPacker.class.getDeclaredMethods()) {
            if (Modifier.isPrivate(method.getModifiers()) && names.contains(method.getName())) {
                check.fault("bears the name of a public method: " + method);
            }
        }
        for (Class<?> inside : ChunkPacker.class.getDeclaredClasses()) {
            for (Method method : inside.getDeclaredMethods()) {
                if (names.contains(method.getName())) {
                    check.fault("bears the name of a public method: " + method);
                }
            }
        }
    }

    /** Rule 5 of ../shared/LANGUAGE.md. */
    private static void noStaticFieldChanges(Check check) {
        for (Field field : ChunkPacker.class.getDeclaredFields()) {
            int modifiers = field.getModifiers();
            if (Modifier.isStatic(modifiers) && !Modifier.isFinal(modifiers)) {
                check.fault("a static field that is not final: " + field);
            }
        }
    }

    private static Set<String> visibleMembers() {
        Set<String> seen = new TreeSet<>();
        for (Field field : ChunkPacker.class.getDeclaredFields()) {
            if (!Modifier.isPrivate(field.getModifiers())) {
                seen.add(field.toString());
            }
        }
        for (Constructor<?> constructor : ChunkPacker.class.getDeclaredConstructors()) {
            if (!Modifier.isPrivate(constructor.getModifiers())) {
                seen.add(constructor.toString());
            }
        }
        for (Method method : ChunkPacker.class.getDeclaredMethods()) {
            if (!Modifier.isPrivate(method.getModifiers())) {
                seen.add(method.toString());
            }
        }
        return seen;
    }
}
