import java.lang.reflect.Constructor;
import java.lang.reflect.Field;
import java.lang.reflect.Member;
import java.lang.reflect.Method;
import java.lang.reflect.Modifier;
import java.util.ArrayList;
import java.util.Arrays;
import java.util.List;
import java.util.TreeSet;

/** The class shows the document's face, and nothing else. */
final class FaceTest {
    private static final Checks checks = new Checks();

    private static final String FACE = String.join("\n", new TreeSet<>(Arrays.asList(
        "public BlockLayer()",
        "public int BlockLayer.buffer(int) throws java.lang.IndexOutOfBoundsException",
        "public int BlockLayer.crash()",
        "public int BlockLayer.drain()",
        "public int BlockLayer.load(int)"
            + " throws java.lang.IndexOutOfBoundsException,java.lang.UnsupportedOperationException",
        "public int BlockLayer.media(int) throws java.lang.IndexOutOfBoundsException",
        "public int BlockLayer.newest(int) throws java.lang.IndexOutOfBoundsException",
        "public int BlockLayer.policy(int) throws java.lang.IllegalArgumentException",
        "public int BlockLayer.queued(int)",
        "public int BlockLayer.request(int,int)",
        "public int BlockLayer.save(int,int)"
            + " throws java.lang.IndexOutOfBoundsException,java.lang.UnsupportedOperationException",
        "public int BlockLayer.step(int) throws java.lang.IllegalArgumentException",
        "public int BlockLayer.sync() throws java.lang.UnsupportedOperationException",
        "public int BlockLayer.told(int)",
        "public int BlockLayer.used(int)",
        "public static final int BlockLayer.NONE")));

    public static void main(String[] args) {
        TreeSet<String> seen = new TreeSet<>();
        for (Member member : members()) {
            if (!Modifier.isPrivate(member.getModifiers()) && !member.isSynthetic()) {
                seen.add(member.toString());
            }
        }
        checks.due("the face", FACE, String.join("\n", seen));
        checks.due("the class", "public final", Modifier.toString(BlockLayer.class.getModifiers()));
        for (Class<?> inside : BlockLayer.class.getDeclaredClasses()) {
            checks.due(inside.getName() + " is static", 1, Modifier.isStatic(inside.getModifiers()) ? 1 : 0);
        }
        checks.finish();
    }

    private static List<Member> members() {
        List<Member> all = new ArrayList<>();
        for (Constructor<?> constructor : BlockLayer.class.getDeclaredConstructors()) {
            all.add(constructor);
        }
        for (Method method : BlockLayer.class.getDeclaredMethods()) {
            all.add(method);
        }
        for (Field field : BlockLayer.class.getDeclaredFields()) {
            all.add(field);
        }
        return all;
    }
}
