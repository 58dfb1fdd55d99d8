/** Policy 4: a request made 100 units before or earlier, and one that is younger. */
final class AgeTest {
    private static final Checks checks = new Checks();

    public static void main(String[] args) {
        made99Before();
        made100Before();
        made101Before();
        madeLaterThanTheStart();
        growsOldWhileItWaits();
        absorbedOneStaysOld();
        barrierIsChosenWhateverItsAge();
        otherPoliciesAskNoAge();
        checks.finish();
    }

    /**
     * WRITEs 0 .. 3 have been served under policy 0, the last on track 29, 30 or 31; 4 (track 20) and 5 (track 31)
     * wait. All were made at the time start.
     */
    private static BlockLayer afterFour(int start, int third, int fourth) {
        BlockLayer x = new BlockLayer();
        if (start > 0) {
            x.step(start);
        }
        Layers.saveAll(x, 248, 0, third, fourth, 160, 251);
        Layers.pushOut(x);
        x.policy(0);
        x.step(66);
        for (int i = 0; i < 60 && x.told(3) > 2; i++) {
            x.step(1);
        }
        x.step(1);
        checks.due("WRITE 3 has ended", -1, x.told(2));
        checks.due("two wait", "4 5", Layers.queuedNumbers(x));
        return x;
    }

    private static String orderUnder(int policy, BlockLayer x) {
        x.policy(policy);
        return Layers.servedInOrder(x);
    }

    private static void made99Before() {
        BlockLayer x = afterFour(0, 232, 233);
        checks.due("33, 33, 31 and 2", 99, x.told(0));
        checks.due("young: the nearest above", "5 4", orderUnder(4, x));
    }

    private static void made100Before() {
        BlockLayer x = afterFour(0, 240, 241);
        checks.due("33, 33, 32 and 2", 100, x.told(0));
        checks.due("old: the least number", "4 5", orderUnder(4, x));
    }

    private static void made101Before() {
        BlockLayer x = afterFour(0, 249, 250);
        checks.due("33, 33, 33 and 2", 101, x.told(0));
        checks.due("old: the least number, though the head's track has another one", "4 5", orderUnder(4, x));
    }

    /** The age counts from when it was made, not from the time 0. */
    private static void madeLaterThanTheStart() {
        BlockLayer x = afterFour(50, 232, 233);
        checks.due("50 and 99", 149, x.told(0));
        checks.due("made", 50, x.request(4, 3));
        checks.due("young", "5 4", orderUnder(4, x));
        BlockLayer y = afterFour(50, 240, 241);
        checks.due("50 and 100", 150, y.told(0));
        checks.due("old", "4 5", orderUnder(4, y));
    }

    /** At 99 the nearest above is taken, and at 101 the least number, before the lowest track. */
    private static void growsOldWhileItWaits() {
        for (int p = 3; p <= 4; p++) {
            BlockLayer x = Layers.withWrites(248, 0, 249, 160, 251, 8);
            x.policy(0);
            x.step(99);
            checks.due("idle", -1, x.told(2));
            checks.due("policy " + p, p == 4 ? "4 3 5" : "4 5 3", orderUnder(p, x));
        }
    }

    private static void absorbedOneStaysOld() {
        BlockLayer x = afterFour(0, 240, 241);
        x.save(160, 7);
        x.sync();
        checks.due("absorbed", 1, x.told(9));
        checks.due("the value", 7, x.request(4, 2));
        checks.due("made", 0, x.request(4, 3));
        x.policy(4);
        x.step(1);
        checks.due("old", 4, x.told(2));
    }

    private static void barrierIsChosenWhateverItsAge() {
        BlockLayer x = new BlockLayer();
        x.policy(4);
        x.step(500);
        x.sync();
        x.save(0, 1);
        x.sync();
        x.step(1);
        checks.due("a new barrier was served", 1, x.told(10));
        checks.due("queue", "1 2", Layers.queuedNumbers(x));
    }

    private static void otherPoliciesAskNoAge() {
        for (int p = 1; p <= 3; p++) {
            checks.due("policy " + p, "5 4", orderUnder(p, afterFour(0, 249, 250)));
        }
        checks.due("policy 0", "4 5", orderUnder(0, afterFour(0, 232, 233)));
    }
}
