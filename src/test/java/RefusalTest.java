/** A call that throws changes nothing: an object with refused calls is compared with one without. */
final class RefusalTest {
    private static final Checks checks = new Checks();

    public static void main(String[] args) {
        wrongArguments();
        fullQueueWithBuffers();
        fullQueueWithoutBuffers();
        checks.finish();
    }

    private static BlockLayer busy() {
        BlockLayer x = Layers.withWrites(8, 80, 200);
        x.policy(2);
        x.step(5);
        return x;
    }

    private static void wrongArguments() {
        BlockLayer x = busy();
        for (int block : new int[] {-1, 256}) {
            checks.refused("load", IndexOutOfBoundsException.class, () -> x.load(block));
            checks.refused("save", IndexOutOfBoundsException.class, () -> x.save(block, 1));
            checks.refused("newest", IndexOutOfBoundsException.class, () -> x.newest(block));
            checks.refused("media", IndexOutOfBoundsException.class, () -> x.media(block));
            checks.refused("buffer", IndexOutOfBoundsException.class, () -> x.buffer(block));
        }
        checks.refused("step", IllegalArgumentException.class, () -> x.step(1001));
        checks.refused("policy", IllegalArgumentException.class, () -> x.policy(5));
        checks.due("all after refusals", Layers.look(busy()), Layers.look(x));
        checks.due("the policy", 2, x.policy(0));
    }

    /** 39 WRITE requests and ten dirty buffers. */
    private static BlockLayer crowded() {
        BlockLayer x = new BlockLayer();
        for (int block = 0; block < 49; block++) {
            x.save(block * 5, block);
        }
        return x;
    }

    private static void fullQueueWithBuffers() {
        BlockLayer x = crowded();
        checks.due("queue", 39, x.told(3));
        checks.refused("load of no buffer", UnsupportedOperationException.class, () -> x.load(1));
        checks.refused("load of a buffer", UnsupportedOperationException.class, () -> x.load(48 * 5));
        checks.refused("save of no buffer", UnsupportedOperationException.class, () -> x.save(1, 1));
        checks.refused("save of a buffer", UnsupportedOperationException.class, () -> x.save(40 * 5, 1));
        checks.refused("sync", UnsupportedOperationException.class, x::sync);
        checks.due("all after refusals", Layers.look(crowded()), Layers.look(x));
    }

    private static void fullQueueWithoutBuffers() {
        BlockLayer x = Layers.withBarriers(40);
        checks.refused("sync", UnsupportedOperationException.class, x::sync);
        checks.refused("load", UnsupportedOperationException.class, () -> x.load(1));
        checks.refused("save", UnsupportedOperationException.class, () -> x.save(1, 1));
        checks.due("all after refusals", Layers.look(Layers.withBarriers(40)), Layers.look(x));
        checks.due("crash()", 0, x.crash());
    }
}
