import java.lang.reflect.Constructor;
import java.lang.reflect.Field;
import java.lang.reflect.Member;
import java.lang.reflect.Method;
import java.lang.reflect.Modifier;
import java.util.Set;
import java.util.TreeSet;

/** The public face is the document's, and nothing else of the class can be seen. */
public final class FaceTest {
    private static final Check CHECK = new Check();

    public static void main(String[] args) {
        CHECK.due("public and final", Modifier.PUBLIC | Modifier.FINAL, RubbingMirrors.class.getModifiers());
        CHECK.due("the face", dueFace().toString(), seenFace().toString());
        noPrivateNamesake();
        CHECK.end();
    }

    private static Set<String> dueFace() {
        return new TreeSet<>(Set.of(
            "public static final int RubbingMirrors.NONE",
            "public RubbingMirrors(int)",
            "public void RubbingMirrors.depth(int,int) throws "
                + "java.lang.IndexOutOfBoundsException,java.lang.IllegalArgumentException",
            "public int RubbingMirrors.place(int,int) throws java.lang.IndexOutOfBoundsException",
            "public long RubbingMirrors.mirror(int) throws "
                + "java.lang.IllegalStateException,java.lang.IndexOutOfBoundsException",
            "public long RubbingMirrors.sum(int) throws java.lang.IllegalArgumentException",
            "public int RubbingMirrors.repeat(int,int) throws java.lang.IllegalArgumentException",
            "public int RubbingMirrors.fill(int,int) throws java.lang.IllegalArgumentException",
            "public int RubbingMirrors.forget()",
            "public int RubbingMirrors.shape(int) throws "
                + "java.lang.IllegalArgumentException,java.lang.IllegalStateException",
            "public void RubbingMirrors.carve(int,int,int) throws "
                + "java.lang.IndexOutOfBoundsException,java.lang.IllegalArgumentException",
            "public int RubbingMirrors.match(int) throws "
                + "java.lang.IllegalStateException,java.lang.IndexOutOfBoundsException",
            "public int RubbingMirrors.kind(int) throws "
                + "java.lang.IllegalArgumentException,java.lang.IllegalStateException",
            "public int RubbingMirrors.question(int,int,int) throws java.lang.IndexOutOfBoundsException,"
                + "java.lang.IllegalArgumentException,java.lang.IllegalStateException",
            "public int RubbingMirrors.ask(int,int) throws "
                + "java.lang.IllegalArgumentException,java.lang.IllegalStateException",
            "public int RubbingMirrors.rule(int,int,int,int,int,int) throws java.lang.IndexOutOfBoundsException,"
                + "java.lang.IllegalArgumentException,java.lang.IllegalStateException",
            "public int RubbingMirrors.age(int) throws "
                + "java.lang.IndexOutOfBoundsException,java.lang.IllegalStateException"));
    }

    private static Set<String> seenFace() {
        Set<String> seen = new TreeSet<>();
        for (Constructor<?> c : RubbingMirrors.class.getDeclaredConstructors()) {
            addIfSeen(seen, c, c.toString());
        }
        for (Method m : RubbingMirrors.class.getDeclaredMethods()) {
            addIfSeen(seen, m, m.toString());
        }
        for (Field f : RubbingMirrors.class.getDeclaredFields()) {
            addIfSeen(seen, f, f.toString());
        }
        return seen;
    }

    private static void addIfSeen(Set<String> seen, Member member, String text) {
        if (!Modifier.isPrivate(member.getModifiers())) {
            seen.add(text);
        }
    }

    private static void noPrivateNamesake() {
        Set<String> open = new TreeSet<>();
        for (Method m : RubbingMirrors.class.getMethods()) {
            open.add(m.getName());
        }
        for (Method m : RubbingMirrors.class.getDeclaredMethods()) {
            if (Modifier.isPrivate(m.getModifiers()) && open.contains(m.getName())) {
                CHECK.due("a private method's name", "its own", m.getName());
            }
        }
    }
}
