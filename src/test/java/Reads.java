import java.lang.reflect.Method;

/**
 * READs that wait or are served. load() alone makes a READ, and does not end before it: no call of the face ever
 * leaves one in the queue or at the disk. What the document says of these is tested with READs that the class's
 * own makeRequest puts there.
 */
final class Reads {
    private static final int READ = 0;

    private Reads() {
    }

    /** False where the class has no such method inside; its inside is free, so that alone is no fault. */
    static boolean canBeMade() {
        boolean can = maker() != null;
        if (!can) {
            System.out.println("not tested: READs that wait, for there is no makeRequest(int, int, int)");
        }
        return can;
    }

    static void make(BlockLayer x, int block) {
        try {
            maker().invoke(x, READ, block, 0);
        } catch (ReflectiveOperationException e) {
            throw new IllegalStateException(e);
        }
    }

    private static Method maker() {
        try {
            Method found = BlockLayer.class.getDeclaredMethod("makeRequest", int.class, int.class, int.class);
            found.setAccessible(true);
            return found;
        } catch (NoSuchMethodException e) {
            return null;
        }
    }
}
