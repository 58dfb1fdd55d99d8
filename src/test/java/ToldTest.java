/** Promise 15. */
final class ToldTest {
    private static final Checks checks = new Checks();

    public static void main(String[] args) {
        everyNumber();
        otherWhats();
        checks.finish();
    }

    private static void everyNumber() {
        BlockLayer x = new BlockLayer();
        x.step(3);
        x.load(16);
        x.load(16);
        x.load(16);
        x.load(17);
        Layers.saveAll(x, 8, 80, 200);
        Layers.pushOut(x);
        x.save(8, 1);
        x.save(8, 2);
        Layers.saveAll(x, 100, 101, 102, 103, 104, 105, 106, 107, 108, 109);
        x.step(14);
        // From 9 on at track 2: block 80 for 10 units, then block 150 (request 5) is the nearest above.
        int[] due = {23, 18, 5, 11, 1, 10, 2, 2, 16, 1, 3, 3};
        for (int what = 0; what <= 11; what++) {
            checks.due("told(" + what + ")", due[what], x.told(what));
        }
    }

    private static void otherWhats() {
        BlockLayer x = new BlockLayer();
        for (int what : new int[] {-1, 12, 13, Integer.MIN_VALUE, Integer.MAX_VALUE}) {
            checks.due("told(" + what + ")", -1, x.told(what));
        }
    }
}
