/** Promise 7: locking. The slip is looked at in TermsSlipTest, what others lose in TermsLockedTest. */
public final class Promise07LockTest {
    public static void main(String[] args) {
        Checks checks = new Checks("Promise 7: lock");
        onePulled(checks);
        howMuchShorter(checks);
        shorterIsTheDifferenceOfLonger(checks);
        noSuch(checks);
        checks.finish();
    }

    private static void onePulled(Checks checks) {
        checks.sentence("Locks a tendon that is pulled");
        TendonLosses bridge = Bridges.plain();
        bridge.pull(0, 1, 1000);
        checks.due("lock", bridge.lock(0), 0);
        checks.due("locked ones", bridge.count(1), 1);
        checks.due("pulled ones", bridge.count(2), 0);
        checks.due("locked(0)", bridge.locked(0), 0);
        Bridges.dueForces(checks, bridge, 0, 1000, 1000);
        Refusals refusals = new Refusals(checks, Bridges::mixed);
        refusals.bad("lock of one that was never pulled", b -> b.lock(0));
        refusals.bad("lock of one with one point", b -> b.lock(4));
        refusals.bad("lock of a locked one", b -> b.lock(2));
        refusals.bad("lock of another locked one", b -> b.lock(3));
        bridge.cut(0);
        checks.due("lock of one that was cut", bridge.lock(0), TendonLosses.BAD);
        bridge.pull(0, 1, 1000);
        bridge.cut(0);
        checks.due("lock of one let go", bridge.lock(0), TendonLosses.BAD);
    }

    private static void howMuchShorter(Checks checks) {
        checks.sentence(": by how many micrometres it is shorter than when it was pulled.");
        TendonLosses bridge = Bridges.plain();
        bridge.losses(1000, 0, 0);
        bridge.pull(0, 3, 1_000_000);
        checks.due("lock with two anchors", bridge.lock(0), 2000);
        bridge.cut(0);
        bridge.losses(20_000, 0, 0);
        int all = bridge.pull(0, 3, 10_000);
        checks.due("lock with more slip than it is longer", bridge.lock(0), all);
        checks.due("longer", bridge.longer(0), 0);
        bridge.cut(0);
        bridge.losses(0, 0, 0);
        bridge.pull(0, 3, 10_000_000);
        checks.due("lock without slip", bridge.lock(0), 0);
    }

    /** Pieces are cut off one by one, so that sums of differences would not be the difference. */
    private static void shorterIsTheDifferenceOfLonger(Checks checks) {
        for (int slip = 0; slip <= 3000; slip += 250) {
            for (int from = 1; from <= 3; from++) {
                TendonLosses bridge = new TendonLosses();
                bridge.losses(slip, 10, 3);
                int wave = Bridges.add(bridge, 730, 0, 0, 3100, 90, 5200, -70, 9300, 400, 11_000, 10,
                        17_000, -800, 19_000, 200);
                int before = bridge.pull(wave, from, 777_777);
                int shorter = bridge.lock(wave);
                checks.due("lock with slip " + slip + " from " + from, shorter,
                        before - bridge.longer(wave));
            }
        }
    }

    private static void noSuch(Checks checks) {
        checks.sentence("BAD: none such.");
        checks.due("lock without tendons", new TendonLosses().lock(0), TendonLosses.BAD);
        Refusals refusals = new Refusals(checks, Bridges::mixed);
        for (int tendon : Bridges.NO_TENDONS) {
            refusals.bad("lock(" + tendon + ")", b -> b.lock(tendon));
        }
    }
}
