/** Promise 7, and what each policy chooses. */
final class PolicyTest {
    private static final Checks checks = new Checks();

    public static void main(String[] args) {
        answersTheOneBefore();
        wrongPolicies();
        eachPolicyFromTheMiddle();
        nearestOfTwo();
        downGoesOnDown();
        downIsKeptUnderOtherPolicies();
        aboveIsTheHeadsToo();
        oldOnes();
        barriersHoldUnderEachPolicy();
        barriersDoNotTurnTheHead();
        changeWhileServing();
        changeAtTheSameTime();
        checks.finish();
    }

    private static void answersTheOneBefore() {
        BlockLayer x = new BlockLayer();
        int before = 3;
        for (int p : new int[] {0, 1, 2, 3, 4, 4, 0}) {
            checks.due("policy(" + p + ")", before, x.policy(p));
            before = p;
        }
    }

    private static void wrongPolicies() {
        BlockLayer x = new BlockLayer();
        for (int p : new int[] {-1, 5, Integer.MIN_VALUE, Integer.MAX_VALUE}) {
            checks.refused("policy(" + p + ")", IllegalArgumentException.class, () -> x.policy(p));
        }
        checks.due("the policy after them", 3, x.policy(3));
    }

    /** The head at track 10, and WRITE requests 1 .. of these blocks. */
    private static BlockLayer fromTheMiddle(int... blocks) {
        BlockLayer x = new BlockLayer();
        x.load(80);
        Layers.saveAll(x, blocks);
        Layers.pushOut(x);
        return x;
    }

    private static void eachPolicyFromTheMiddle() {
        String[] due = {"1 2 3 4 5 6", "3 2 5 6 1 4", "1 4 3 2 5 6", "1 4 6 2 5 3", "1 4 6 2 5 3"};
        for (int p = 0; p <= 4; p++) {
            // Tracks 14, 6, 9, 30, 6, 0.
            BlockLayer x = fromTheMiddle(112, 49, 72, 240, 48, 0);
            x.policy(p);
            checks.due("order of policy " + p, due[p], Layers.servedInOrder(x));
        }
    }

    private static void nearestOfTwo() {
        BlockLayer x = fromTheMiddle(112, 48);
        x.policy(1);
        checks.due("track 14 has the lesser number", "1 2", Layers.servedInOrder(x));
        BlockLayer y = fromTheMiddle(48, 112);
        y.policy(1);
        checks.due("track 6 has the lesser number", "1 2", Layers.servedInOrder(y));
    }

    /** Serves request 2 at track 6 on the way down, after request 1 at track 14. */
    private static BlockLayer onTheWayDown() {
        BlockLayer x = fromTheMiddle(112, 48);
        x.policy(2);
        x.step(7);
        return x;
    }

    private static void downGoesOnDown() {
        BlockLayer x = onTheWayDown();
        checks.due("served", 2, x.told(2));
        // The ten that pushed out are dirty: they become requests 3 .. 12, of tracks 18 and 19.
        Layers.saveAll(x, 56, 50, 16);
        for (int i = 0; i < 10; i++) {
            x.save(200 + i, 1);
        }
        checks.due("blocks behind these", 56, x.request(13, 1));
        checks.due("down first, its own track before all",
            "14 15 13 3 4 5 6 7 8 9 10 11 12", Layers.servedInOrder(x));
    }

    private static void downIsKeptUnderOtherPolicies() {
        BlockLayer x = onTheWayDown();
        x.policy(3);
        x.drain();
        x.load(80);
        x.policy(2);
        waitingAtTracks11And3(x);
        checks.due("it still goes down", 3, headAfterOneUnit(x));

        BlockLayer y = onTheWayDown();
        y.crash();
        y.policy(1);
        y.load(80);
        y.policy(2);
        waitingAtTracks11And3(y);
        checks.due("after a crash it goes up", 11, headAfterOneUnit(y));
    }

    /** From track 10 it is seen then whether the head goes up or down. */
    private static void waitingAtTracks11And3(BlockLayer x) {
        x.save(88, 1);
        x.save(24, 1);
        x.sync();
    }

    private static int headAfterOneUnit(BlockLayer x) {
        x.step(1);
        return x.told(1);
    }

    private static void aboveIsTheHeadsToo() {
        for (int p = 1; p <= 4; p++) {
            BlockLayer x = fromTheMiddle(88, 81, 72);
            x.policy(p);
            x.step(1);
            checks.due("policy " + p + " takes the head's track", 2, x.told(2));
        }
    }

    private static void oldOnes() {
        // Tracks 31, 0, 30, 30 take 100 units; of the others track 31 is nearest above, track 20 has the least number.
        BlockLayer x = Layers.withWrites(248, 0, 240, 241, 160, 249);
        x.policy(0);
        x.step(100);
        x.policy(4);
        checks.due("idle at 100", -1, x.told(2));
        checks.due("made 100 units before", "4 5", Layers.servedInOrder(x));

        // Tracks 31, 0, 29, 29 take 99.
        BlockLayer y = Layers.withWrites(248, 0, 232, 233, 160, 249);
        y.policy(0);
        y.step(99);
        y.policy(4);
        checks.due("idle at 99", -1, y.told(2));
        checks.due("made 99 units before", "5 4", Layers.servedInOrder(y));

        BlockLayer z = Layers.withWrites(248, 0, 240, 241, 160, 249);
        z.policy(0);
        z.step(100);
        z.policy(3);
        checks.due("policy 3 asks no age", "5 4", Layers.servedInOrder(z));
    }

    private static void barriersHoldUnderEachPolicy() {
        for (int p = 0; p <= 4; p++) {
            BlockLayer x = new BlockLayer();
            x.policy(p);
            x.save(200, 1);
            x.sync();
            x.save(0, 1);
            x.sync();
            x.step(26);
            checks.due("policy " + p + ": the WRITE before the barrier first", 0, x.told(2));
            checks.due("policy " + p + ": the others wait", "1 2 3", Layers.queuedNumbers(x));
            x.step(2);
            checks.due("policy " + p + ": then the barrier", 1, x.told(2));
            checks.due("policy " + p + ": the head stays", 25, x.told(1));
            x.step(1);
            checks.due("policy " + p + ": media(200)", 1, x.media(200));
            x.step(1);
            checks.due("policy " + p + ": then the WRITE behind it", 2, x.told(2));
        }
    }

    private static void barriersDoNotTurnTheHead() {
        BlockLayer x = new BlockLayer();
        x.policy(2);
        x.load(80);
        x.sync();
        x.drain();
        waitingAtTracks11And3(x);
        checks.due("it still goes up", 11, headAfterOneUnit(x));
    }

    /** Another policy is asked when the disk chooses next: what it serves goes on to its end. */
    private static void changeWhileServing() {
        // From track 10: request 1 at track 14, 2 at track 6, 3 at track 9.
        BlockLayer x = fromTheMiddle(112, 48, 72);
        x.policy(0);
        x.step(1);
        checks.due("policy 0 serves", 1, x.told(2));
        checks.due("policy(1)", 0, x.policy(1));
        checks.due("it goes on", 1, x.told(2));
        checks.due("the queue is as before", "2 3", Layers.queuedNumbers(x));
        checks.due("the head is as before", 14, x.told(1));
        x.step(5);
        checks.due("it ends with its 6th unit", -1, x.told(2));
        x.step(1);
        checks.due("policy 1 serves then, not policy 0", 3, x.told(2));
    }

    /** Without time nothing is chosen, so the last policy before time goes on is the one that counts. */
    private static void changeAtTheSameTime() {
        BlockLayer x = fromTheMiddle(112, 48, 72);
        x.policy(0);
        x.policy(1);
        x.policy(2);
        x.policy(1);
        checks.due("idle", -1, x.told(2));
        x.step(1);
        checks.due("policy 1 serves", 3, x.told(2));
    }
}
