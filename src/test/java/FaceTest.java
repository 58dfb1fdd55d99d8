import java.lang.reflect.Constructor;
import java.lang.reflect.Field;
import java.lang.reflect.Member;
import java.lang.reflect.Method;
import java.lang.reflect.Modifier;
import java.util.ArrayList;
import java.util.Arrays;
import java.util.List;
import java.util.TreeSet;

/** The class shows the document's face, and nothing else; what is inside keeps to LANGUAGE.md as far as can be seen. */
final class FaceTest {
    private static final Checks checks = new Checks();
    private static final int MOST_CLASSES = 12;
    private static final int MOST_FIELDS = 20;
    private static final int MOST_PARAMETERS = 7;

    private static final String FACE = String.join("\n", new TreeSet<>(Arrays.asList(
        "public BlockLayer()",
        "public int BlockLayer.buffer(int) throws java.lang.IndexOutOfBoundsException",
        "public int BlockLayer.crash()",
        "public int BlockLayer.drain()",
        "public int BlockLayer.load(int)"
            + " throws java.lang.IndexOutOfBoundsException,java.lang.UnsupportedOperationException",
        "public int BlockLayer.media(int) throws java.lang.IndexOutOfBoundsException",
        "public int BlockLayer.newest(int) throws java.lang.IndexOutOfBoundsException",
        "public int BlockLayer.policy(int) throws java.lang.IllegalArgumentException",
        "public int BlockLayer.queued(int)",
        "public int BlockLayer.request(int,int)",
        "public int BlockLayer.save(int,int)"
            + " throws java.lang.IndexOutOfBoundsException,java.lang.UnsupportedOperationException",
        "public int BlockLayer.step(int) throws java.lang.IllegalArgumentException",
        "public int BlockLayer.sync() throws java.lang.UnsupportedOperationException",
        "public int BlockLayer.told(int)",
        "public int BlockLayer.used(int)",
        "public static final int BlockLayer.NONE")));

    public static void main(String[] args) {
        theFace();
        classesInside();
        for (Class<?> own : ownClasses()) {
            staticFieldsAreFinal(own);
            fieldsAreFew(own);
            parametersAreFew(own);
            noPrivateMethodIsNamedAsAPublicOne(own);
        }
        checks.finish();
    }

    private static void theFace() {
        TreeSet<String> seen = new TreeSet<>();
        for (Member member : membersOf(BlockLayer.class)) {
            if (!Modifier.isPrivate(member.getModifiers()) && !member.isSynthetic()) {
                seen.add(member.toString());
            }
        }
        checks.due("the face", FACE, String.join("\n", seen));
        checks.due("the class", "public final", Modifier.toString(BlockLayer.class.getModifiers()));
        checks.due("its package", "", BlockLayer.class.getPackageName());
        checks.due("NONE", -1, BlockLayer.NONE);
    }

    private static void classesInside() {
        for (Class<?> inside : BlockLayer.class.getDeclaredClasses()) {
            int modifiers = inside.getModifiers();
            checks.due(inside.getName() + " is static", 1, yes(Modifier.isStatic(modifiers)));
            checks.due(inside.getName() + " is hidden",
                0, yes(Modifier.isPublic(modifiers) || Modifier.isProtected(modifiers)));
        }
        checks.due("classes are few", 1, yes(ownClasses().size() <= MOST_CLASSES));
    }

    private static void staticFieldsAreFinal(Class<?> own) {
        for (Field field : own.getDeclaredFields()) {
            if (Modifier.isStatic(field.getModifiers()) && !field.isSynthetic()) {
                checks.due(field + " is final", 1, yes(Modifier.isFinal(field.getModifiers())));
            }
        }
    }

    private static void fieldsAreFew(Class<?> own) {
        int count = 0;
        for (Field field : own.getDeclaredFields()) {
            count += yes(!Modifier.isStatic(field.getModifiers()));
        }
        checks.due("fields of " + own.getName() + " are few", 1, yes(count <= MOST_FIELDS));
    }

    private static void parametersAreFew(Class<?> own) {
        for (Method method : own.getDeclaredMethods()) {
            checks.due(method + " has few parameters", 1, yes(method.getParameterCount() <= MOST_PARAMETERS));
        }
    }

    private static void noPrivateMethodIsNamedAsAPublicOne(Class<?> own) {
        TreeSet<String> faceNames = new TreeSet<>();
        for (Method method : BlockLayer.class.getDeclaredMethods()) {
            if (Modifier.isPublic(method.getModifiers())) {
                faceNames.add(method.getName());
            }
        }
        for (Method method : own.getDeclaredMethods()) {
            if (Modifier.isPrivate(method.getModifiers())) {
                checks.due(method + " has a name of the face", 0, yes(faceNames.contains(method.getName())));
            }
        }
    }

    private static int yes(boolean is) {
        return is ? 1 : 0;
    }

    private static List<Class<?>> ownClasses() {
        List<Class<?>> all = new ArrayList<>();
        all.add(BlockLayer.class);
        all.addAll(Arrays.asList(BlockLayer.class.getDeclaredClasses()));
        return all;
    }

    private static List<Member> membersOf(Class<?> own) {
        List<Member> all = new ArrayList<>();
        for (Constructor<?> constructor : own.getDeclaredConstructors()) {
            all.add(constructor);
        }
        for (Method method : own.getDeclaredMethods()) {
            all.add(method);
        }
        for (Field field : own.getDeclaredFields()) {
            all.add(field);
        }
        return all;
    }
}
