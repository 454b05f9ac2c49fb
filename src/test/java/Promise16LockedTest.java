/** Promise 16: the locked ones in the order of locking. */
public final class Promise16LockedTest {
    public static void main(String[] args) {
        Checks checks = new Checks("Promise 16: locked");
        orderOfLocking(checks);
        noSuch(checks);
        checks.finish();
    }

    private static void dueLocked(Checks checks, TendonLosses bridge, int... order) {
        for (int k = 0; k < order.length; k++) {
            checks.due("locked(" + k + ")", bridge.locked(k), order[k]);
        }
        checks.due("locked behind the last", bridge.locked(order.length), TendonLosses.BAD);
        checks.due("count(1)", bridge.count(1), order.length);
    }

    private static TendonLosses sixPulled() {
        TendonLosses bridge = new TendonLosses();
        for (int i = 0; i < 6; i++) {
            Bridges.addStraight(bridge);
            bridge.pull(i, 1, 1000);
        }
        return bridge;
    }

    private static void orderOfLocking(Checks checks) {
        checks.sentence("The k-th locked tendon, in the order of locking.");
        TendonLosses bridge = sixPulled();
        dueLocked(checks, bridge);
        int[] order = {3, 0, 5, 1, 4, 2};
        for (int tendon : order) {
            bridge.lock(tendon);
        }
        dueLocked(checks, bridge, 3, 0, 5, 1, 4, 2);
        bridge.cut(3);
        dueLocked(checks, bridge, 0, 5, 1, 4, 2);
        bridge.cut(2);
        bridge.cut(1);
        dueLocked(checks, bridge, 0, 5, 4);
        bridge.pull(3, 2, 1000);
        dueLocked(checks, bridge, 0, 5, 4);
        bridge.lock(3);
        dueLocked(checks, bridge, 0, 5, 4, 3);
        bridge.lock(0);
        dueLocked(checks, bridge, 0, 5, 4, 3);
        int[] rest = {0, 3, 4, 5};
        for (int tendon : rest) {
            bridge.cut(tendon);
        }
        dueLocked(checks, bridge);
    }

    private static void noSuch(Checks checks) {
        checks.sentence("BAD: none such.");
        checks.due("locked(0) of a new one", new TendonLosses().locked(0), TendonLosses.BAD);
        checks.due("locked(0) of pulled ones", sixPulled().locked(0), TendonLosses.BAD);
        Refusals refusals = new Refusals(checks, Bridges::mixed);
        int[] wrong = {2, 3, 5, 6, -1, Bridges.LEAST_INT, Bridges.MOST_INT};
        for (int k : wrong) {
            refusals.bad("locked(" + k + ")", b -> b.locked(k));
        }
        refusals.changesNothing("locked(0)", b -> b.locked(0), 3);
        refusals.changesNothing("locked(1)", b -> b.locked(1), 2);
        TendonLosses full = sixPulled();
        for (int tendon = 0; tendon < 6; tendon++) {
            full.lock(tendon);
        }
        checks.due("locked(5) of six", full.locked(5), 5);
        checks.due("locked(6) of six", full.locked(6), TendonLosses.BAD);
        checks.due("locked(-1) of six", full.locked(-1), TendonLosses.BAD);
    }
}
