/** Promise 1. */
final class NewObjectTest {
    private static final Checks checks = new Checks();

    public static void main(String[] args) {
        allIsZero();
        policyIsThree();
        objectsShareNothing();
        checks.finish();
    }

    private static void allIsZero() {
        BlockLayer x = new BlockLayer();
        for (int what = 0; what <= 11; what++) {
            checks.due("told(" + what + ") at first", what == 2 ? -1 : 0, x.told(what));
        }
        for (int block : new int[] {0, 1, 7, 8, 128, 255}) {
            checks.due("newest(" + block + ") at first", 0, x.newest(block));
            checks.due("media(" + block + ") at first", 0, x.media(block));
            checks.due("buffer(" + block + ") at first", 0, x.buffer(block));
        }
        checks.due("used(0) at first", -1, x.used(0));
        checks.due("queued(0) at first", -1, x.queued(0));
        checks.due("request(0, 0) at first", -1, x.request(0, 0));
        checks.due("crash() at first", 0, x.crash());
        checks.due("drain() at first", 0, x.drain());
    }

    private static void policyIsThree() {
        checks.due("policy(0) at first", 3, new BlockLayer().policy(0));
    }

    private static void objectsShareNothing() {
        BlockLayer x = new BlockLayer();
        BlockLayer y = new BlockLayer();
        x.save(8, 5);
        x.sync();
        x.drain();
        checks.due("media(8) of the one that wrote", 5, x.media(8));
        checks.due("media(8) of the other", 0, y.media(8));
        checks.due("told(0) of the other", 0, y.told(0));
        checks.due("NONE", -1, BlockLayer.NONE);
    }
}
