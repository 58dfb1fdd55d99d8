/** Promises 13 and 14. */
final class RequestTest {
    private static final Checks checks = new Checks();

    public static void main(String[] args) {
        queueGoesOn();
        wrongPlaces();
        waitingAndServed();
        barriers();
        whenMade();
        whenMadeByEviction();
        wrongNumbers();
        checks.finish();
    }

    private static void queueGoesOn() {
        BlockLayer x = Layers.withWrites(80, 0, 160);
        checks.due("queue", "0 1 2", Layers.queuedNumbers(x));
        x.step(1);
        checks.due("without the served, which was in the midst", "0 2", Layers.queuedNumbers(x));
        checks.due("queued(0)", 0, x.queued(0));
        checks.due("queued(1)", 2, x.queued(1));
        checks.due("queued(2)", -1, x.queued(2));
    }

    private static void wrongPlaces() {
        BlockLayer x = Layers.withBarriers(40);
        checks.due("queued(39)", 39, x.queued(39));
        for (int i : new int[] {-1, 40, 41, Integer.MIN_VALUE, Integer.MAX_VALUE}) {
            checks.due("queued(" + i + ")", -1, x.queued(i));
        }
    }

    private static void waitingAndServed() {
        BlockLayer x = Layers.withWrites(80, 255);
        checkWrite(x, 0, 80);
        checkWrite(x, 1, 255);
        x.step(1);
        checks.due("served", 0, x.told(2));
        checkWrite(x, 0, 80);
        x.drain();
        for (int what = 0; what <= 3; what++) {
            checks.due("request(0, " + what + ") when it has ended", -1, x.request(0, what));
        }
    }

    private static void checkWrite(BlockLayer x, int number, int block) {
        checks.due("its kind", 1, x.request(number, 0));
        checks.due("its block", block, x.request(number, 1));
        checks.due("its value", 1000 + block, x.request(number, 2));
        checks.due("when it was made", 0, x.request(number, 3));
    }

    private static void barriers() {
        BlockLayer x = new BlockLayer();
        x.save(0, 5);
        x.step(4);
        x.sync();
        x.step(3);
        checks.due("the barrier is served", 1, x.told(2));
        checks.due("its kind", 2, x.request(1, 0));
        checks.due("its block", -1, x.request(1, 1));
        checks.due("its value", 0, x.request(1, 2));
        checks.due("when it was made", 4, x.request(1, 3));
    }

    private static void whenMade() {
        BlockLayer x = new BlockLayer();
        x.step(17);
        Layers.saveAll(x, 255);
        x.sync();
        x.step(5);
        x.sync();
        checks.due("request(0, 3)", 17, x.request(0, 3));
        checks.due("request(1, 3)", 17, x.request(1, 3));
        checks.due("request(2, 3)", 22, x.request(2, 3));
    }

    /** The WRITE and the READ are made before the time goes on that the load takes. */
    private static void whenMadeByEviction() {
        BlockLayer x = new BlockLayer();
        Layers.saveAll(x, 255, 1, 2, 3, 4, 5, 6, 7, 8, 9);
        x.step(17);
        x.load(0);
        checks.due("the time after the load", 19, x.told(0));
        checks.due("the WRITE waits", "0", Layers.queuedNumbers(x));
        checks.due("when it was made by load", 17, x.request(0, 3));
        x.save(16, 1);
        checks.due("when one was made by save", 19, x.request(2, 3));
    }

    private static void wrongNumbers() {
        BlockLayer x = Layers.withBarriers(2);
        for (int what : new int[] {-1, 4, Integer.MIN_VALUE, Integer.MAX_VALUE}) {
            checks.due("request(0, " + what + ")", -1, x.request(0, what));
        }
        for (int number : new int[] {-1, 2, Integer.MIN_VALUE, Integer.MAX_VALUE}) {
            for (int what = 0; what <= 3; what++) {
                checks.due("request(" + number + ", " + what + ")", -1, x.request(number, what));
            }
        }
    }
}
