/** Promise 5, and how the disk serves while time goes on. */
final class StepTest {
    private static final Checks checks = new Checks();

    public static void main(String[] args) {
        idle();
        unitsOfTheServed();
        manyInOneStep();
        partsAreAsTheWhole();
        wrongUnits();
        checks.finish();
    }

    private static void idle() {
        BlockLayer x = new BlockLayer();
        checks.due("step(1)", 1, x.step(1));
        checks.due("step(1000)", 1001, x.step(1000));
        checks.due("idle units", 1001, x.told(11));
        checks.due("served", 0, x.told(10));
    }

    private static void unitsOfTheServed() {
        BlockLayer x = Layers.withWrites(40, 255);
        checks.due("idle before time goes on", -1, x.told(2));
        checks.due("queue", "0 1", Layers.queuedNumbers(x));
        x.step(1);
        checks.due("served", 0, x.told(2));
        checks.due("it is in the queue no more", "1", Layers.queuedNumbers(x));
        checks.due("the head is there", 5, x.told(1));
        x.step(5);
        checks.due("served still", 0, x.told(2));
        checks.due("not in the cache", 0, x.told(4));
        checks.due("served ones", 0, x.told(10));
        x.step(1);
        checks.due("ended with its 7th unit", -1, x.told(2));
        checks.due("in the cache", 1, x.told(4));
        checks.due("served ones", 1, x.told(10));
        checks.due("the next one waits for time", "1", Layers.queuedNumbers(x));
        x.step(28);
        checks.due("ended after 26 and 2", -1, x.told(2));
        checks.due("no idle unit", 0, x.told(11));
        x.step(1);
        checks.due("an idle unit", 1, x.told(11));
    }

    private static void manyInOneStep() {
        BlockLayer x = new BlockLayer();
        Layers.saveAll(x, 0, 8, 16);
        x.sync();
        checks.due("step(20)", 20, x.step(20));
        checks.due("2 + 3 + 3 for WRITEs, 4 for the barrier, 8 idle", 8, x.told(11));
        checks.due("served", 4, x.told(10));
        checks.due("media(16)", 1016, x.media(16));
    }

    private static void partsAreAsTheWhole() {
        BlockLayer x = Layers.withWrites(200, 8, 120, 64, 16);
        BlockLayer y = Layers.withWrites(200, 8, 120, 64, 16);
        x.step(70);
        for (int i = 0; i < 70; i++) {
            y.step(1);
        }
        checks.due("70 steps of 1", Layers.look(x), Layers.look(y));
    }

    private static void wrongUnits() {
        BlockLayer x = new BlockLayer();
        for (int n : new int[] {0, -1, 1001, Integer.MIN_VALUE, Integer.MAX_VALUE}) {
            checks.refused("step(" + n + ")", IllegalArgumentException.class, () -> x.step(n));
        }
        checks.due("the time after them", 0, x.told(0));
    }
}
