/** Promise 8: cutting a locked one, letting a pulled one go. */
public final class Promise08CutTest {
    public static void main(String[] args) {
        Checks checks = new Checks();
        TendonLosses bridge = new TendonLosses();
        checks.due("cut without tendons", bridge.cut(0), false);
        for (int i = 0; i < 3; i++) {
            Bridges.addStraight(bridge);
        }
        for (int tendon : Bridges.ODD_NUMBERS) {
            checks.due("cut(" + tendon + ")", bridge.cut(tendon), false);
        }
        checks.due("cut of one not pulled", bridge.cut(0), false);
        bridge.friction(0, 0);
        for (int i = 0; i < 3; i++) {
            bridge.pull(i, 1, 1000);
        }
        checks.due("letting go", bridge.cut(1), true);
        checks.due("letting go again", bridge.cut(1), false);
        nothingLeft(checks, bridge, 1);
        checks.due("pulled ones", bridge.count(2), 2);
        checks.due("lock of one let go", bridge.lock(1), TendonLosses.BAD);
        bridge.pull(1, 1, 1000);
        bridge.lock(0);
        bridge.lock(1);
        bridge.lock(2);
        Bridges.dueForces(checks, bridge, 0, 980, 980);
        checks.due("cut of a locked one", bridge.cut(1), true);
        nothingLeft(checks, bridge, 1);
        // What it took from the others is not given back.
        Bridges.dueForces(checks, bridge, 0, 980, 980);
        checks.due("locked(0)", bridge.locked(0), 0);
        checks.due("locked(1)", bridge.locked(1), 2);
        checks.due("locked(2)", bridge.locked(2), TendonLosses.BAD);
        checks.due("points stay", bridge.count(4), 6);
        checks.due("tendons stay", bridge.count(0), 3);
        bridge.pull(1, 1, 1000);
        bridge.lock(1);
        checks.due("locked(2) behind locking again", bridge.locked(2), 1);
        Bridges.dueForces(checks, bridge, 0, 970, 970);
        checks.finish();
    }

    private static void nothingLeft(Checks checks, TendonLosses bridge, int tendon) {
        checks.due("force", bridge.force(tendon, 0), TendonLosses.BAD);
        checks.due("at", bridge.at(tendon, 0), TendonLosses.BAD);
        checks.due("longer", bridge.longer(tendon), TendonLosses.BAD);
    }
}
