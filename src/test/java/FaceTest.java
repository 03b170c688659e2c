import java.lang.reflect.Constructor;
import java.lang.reflect.Field;
import java.lang.reflect.Member;
import java.lang.reflect.Method;
import java.lang.reflect.Modifier;
import java.util.Set;
import java.util.TreeSet;

/** The public face of the document, and nothing else that can be seen from outside. */
public final class FaceTest {
    private static final String[] FACE = {
        "public static final int DotLines.NONE",
        "public DotLines(int)",
        "public boolean DotLines.paint(int,int,boolean)",
        "public int DotLines.code() throws java.lang.IllegalStateException",
        "public int DotLines.close() throws java.lang.IllegalStateException",
        "public void DotLines.clear()",
        "public long DotLines.out(int)",
        "public boolean DotLines.give(long,int)",
        "public int DotLines.turn(int) throws java.lang.IllegalArgumentException",
        "public void DotLines.wipe()",
        "public void DotLines.rewind()",
        "public int DotLines.read()",
        "public boolean DotLines.black(int) throws java.lang.IndexOutOfBoundsException",
        "public long DotLines.dots(int)",
        "public int DotLines.change(int)",
        "public int DotLines.look(int)"
    };

    private static void addVisible(Set<String> seen, Member... members) {
        for (Member m : members) {
            if (!Modifier.isPrivate(m.getModifiers())) {
                seen.add(m.toString());
            }
        }
    }

    public static void main(String[] args) {
        Set<String> want = new TreeSet<>(Set.of(FACE));
        Set<String> seen = new TreeSet<>();
        Field[] fields = DotLines.class.getDeclaredFields();
        Constructor<?>[] constructors = DotLines.class.getDeclaredConstructors();
        Method[] methods = DotLines.class.getDeclaredMethods();
        addVisible(seen, fields);
        addVisible(seen, constructors);
        addVisible(seen, methods);
        int modifiers = DotLines.class.getModifiers();
        boolean fine = seen.equals(want) && Modifier.isPublic(modifiers) && Modifier.isFinal(modifiers);
        if (!fine) {
            System.out.println("the face is " + seen + ", due is " + want + ", of a class that is public and final");
            System.exit(1);
        }
        System.out.println("the face is the document's");
    }
}
