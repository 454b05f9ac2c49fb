/** Promise 16: the locked ones in the order of locking. */
public final class Promise16LockedTest {
    public static void main(String[] args) {
        Checks checks = new Checks();
        TendonLosses bridge = new TendonLosses();
        for (int i = 0; i < 6; i++) {
            Bridges.addStraight(bridge);
            bridge.pull(i, 1, 1000);
        }
        dueLocked(checks, bridge);
        int[] order = {3, 0, 5, 1, 4, 2};
        for (int tendon : order) {
            bridge.lock(tendon);
        }
        dueLocked(checks, bridge, 3, 0, 5, 1, 4, 2);
        bridge.cut(3);
        dueLocked(checks, bridge, 0, 5, 1, 4, 2);
        bridge.cut(2);
        bridge.cut(1);
        dueLocked(checks, bridge, 0, 5, 4);
        bridge.pull(3, 2, 1000);
        dueLocked(checks, bridge, 0, 5, 4);
        bridge.lock(3);
        dueLocked(checks, bridge, 0, 5, 4, 3);
        checks.finish();
    }

    private static void dueLocked(Checks checks, TendonLosses bridge, int... order) {
        for (int k = 0; k < order.length; k++) {
            checks.due("locked(" + k + ")", bridge.locked(k), order[k]);
        }
        checks.due("locked behind the last", bridge.locked(order.length), TendonLosses.BAD);
        checks.due("count(1)", bridge.count(1), order.length);
        for (int odd : Bridges.ODD_NUMBERS) {
            checks.due("locked(" + odd + ")", bridge.locked(odd), TendonLosses.BAD);
        }
    }
}
