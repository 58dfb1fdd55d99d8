/** A wrap-around of values: the least and the greatest int, and NONE, are values as others are. */
final class ValuesTest {
    private static final Checks checks = new Checks();
    private static final int[] VALUES = {Integer.MIN_VALUE, Integer.MAX_VALUE, -1, 1};

    public static void main(String[] args) {
        for (int value : VALUES) {
            onItsWayToTheMedia(value);
            throughTheCache(value);
            absorbed(value);
            savedOverAndAnswered(value);
            lostOrNot(value);
        }
        lossesAcrossTheWholeRange();
        checks.finish();
    }

    private static void onItsWayToTheMedia(int value) {
        String of = " of " + value;
        BlockLayer x = new BlockLayer();
        x.save(255, value);
        checks.due("load" + of, value, x.load(255));
        checks.due("newest" + of, value, x.newest(255));
        x.sync();
        checks.due("the WRITE's value" + of, value, x.request(0, 2));
        x.step(1);
        checks.due("the served one's value" + of, value, x.request(0, 2));
        checks.due("media before" + of, 0, x.media(255));
        x.drain();
        checks.due("media" + of, value, x.media(255));
        checks.due("crash" + of, 0, x.crash());
        checks.due("newest after a crash" + of, value, x.newest(255));
        checks.due("load from the media" + of, value, x.load(255));
    }

    private static void throughTheCache(int value) {
        BlockLayer x = new BlockLayer();
        x.save(0, value);
        Layers.pushOut(x);
        checks.due("newest in the queue", value, x.newest(0));
        x.step(1);
        checks.due("newest while served", value, x.newest(0));
        x.step(1);
        checks.due("newest in the cache", value, x.newest(0));
        checks.due("load from the cache", value, x.load(0));
        checks.due("media", 0, x.media(0));
    }

    private static void absorbed(int value) {
        BlockLayer x = Layers.withWrites(0);
        x.save(0, value);
        x.sync();
        checks.due("absorbed", 1, x.told(9));
        checks.due("the WRITE's value", value, x.request(0, 2));
    }

    private static void savedOverAndAnswered(int value) {
        BlockLayer x = new BlockLayer();
        x.save(0, value);
        checks.due("save over " + value, value, x.save(0, ~value));
        checks.due("save over " + ~value, ~value, x.save(0, value));
    }

    private static void lostOrNot(int value) {
        BlockLayer x = new BlockLayer();
        x.save(0, value);
        checks.due("crash() with " + value + " in a buffer", 1, x.crash());
        BlockLayer y = new BlockLayer();
        y.save(0, value);
        y.sync();
        y.drain();
        y.save(0, 0);
        y.save(0, value);
        checks.due("crash() with " + value + " on the media too", 0, y.crash());
    }

    /** Their difference is -1 in ints, and that of the least and 0 is the least: both are losses. */
    private static void lossesAcrossTheWholeRange() {
        BlockLayer x = new BlockLayer();
        x.save(0, Integer.MAX_VALUE);
        x.save(1, Integer.MIN_VALUE);
        x.sync();
        x.drain();
        x.save(0, Integer.MIN_VALUE);
        x.save(1, 0);
        checks.due("crash()", 2, x.crash());
        checks.due("newest(0)", Integer.MAX_VALUE, x.newest(0));
        checks.due("newest(1)", Integer.MIN_VALUE, x.newest(1));
    }
}
