/** Promise 8: cutting a locked one, letting a pulled one go. */
public final class Promise08CutTest {
    public static void main(String[] args) {
        Checks checks = new Checks("Promise 8: cut");
        cutAndLetGo(checks);
        asBeforePulling(checks);
        othersStay(checks);
        noSuch(checks);
        checks.finish();
    }

    private static void cutAndLetGo(Checks checks) {
        checks.sentence("Cuts a locked tendon, or lets one go that is pulled");
        TendonLosses bridge = Bridges.mixed();
        checks.due("cut of a pulled one", bridge.cut(1), true);
        checks.due("pulled ones", bridge.count(2), 0);
        checks.due("locked ones", bridge.count(1), 2);
        checks.due("cut of the one locked first", bridge.cut(3), true);
        checks.due("locked(0)", bridge.locked(0), 2);
        checks.due("locked(1)", bridge.locked(1), TendonLosses.BAD);
        checks.due("cut of the last one locked", bridge.cut(2), true);
        checks.due("locked ones", bridge.count(1), 0);
        checks.due("locked(0)", bridge.locked(0), TendonLosses.BAD);
    }

    private static void asBeforePulling(Checks checks) {
        checks.sentence(": it is as it was before it was pulled.");
        TendonLosses bridge = Bridges.mixed();
        int[] cut = {1, 2};
        for (int tendon : cut) {
            bridge.cut(tendon);
            checks.due("force", bridge.force(tendon, 0), TendonLosses.BAD);
            checks.due("at", bridge.at(tendon, 0), TendonLosses.BAD);
            checks.due("longer", bridge.longer(tendon), TendonLosses.BAD);
            checks.due("presses", bridge.presses(tendon, 1), Bridges.NONE);
            checks.due("lock", bridge.lock(tendon), TendonLosses.BAD);
            checks.due("its pieces stay", bridge.piece(tendon, 2, 0), 1004);
            checks.due("a point more", bridge.point(tendon, 4000, 0), 5);
        }
        checks.due("tendons stay", bridge.count(0), 5);
        TendonLosses plain = Bridges.plain();
        plain.losses(1000, 0, 0);
        for (int time = 0; time < 3; time++) {
            checks.due("pull", plain.pull(0, 1, 1_000_000), 51_282);
            checks.due("lock", plain.lock(0), 1000);
            checks.due("cut", plain.cut(0), true);
        }
    }

    private static void othersStay(Checks checks) {
        TendonLosses bridge = Bridges.plain();
        Bridges.addStraight(bridge);
        Bridges.addStraight(bridge);
        bridge.losses(0, 10, 0);
        for (int tendon = 0; tendon < 3; tendon++) {
            bridge.pull(tendon, 1, 1000);
        }
        for (int tendon = 0; tendon < 3; tendon++) {
            bridge.lock(tendon);
        }
        Bridges.dueForces(checks, bridge, 0, 980, 980);
        bridge.cut(1);
        // What it took from the others is not given back.
        Bridges.dueForces(checks, bridge, 0, 980, 980);
        Bridges.dueForces(checks, bridge, 2, 1000, 1000);
        checks.due("locked(0)", bridge.locked(0), 0);
        checks.due("locked(1)", bridge.locked(1), 2);
        bridge.pull(1, 1, 1000);
        bridge.lock(1);
        checks.due("locked(2) behind locking again", bridge.locked(2), 1);
        Bridges.dueForces(checks, bridge, 0, 970, 970);
    }

    private static void noSuch(Checks checks) {
        checks.sentence("False: none such.");
        checks.due("cut without tendons", new TendonLosses().cut(0), false);
        Refusals refusals = new Refusals(checks, Bridges::mixed);
        for (int tendon : Bridges.NO_TENDONS) {
            refusals.no("cut(" + tendon + ")", b -> b.cut(tendon));
        }
        refusals.no("cut of one that was never pulled", b -> b.cut(0));
        refusals.no("cut of one with one point", b -> b.cut(4));
        TendonLosses bridge = Bridges.mixed();
        bridge.cut(1);
        checks.due("letting go again", bridge.cut(1), false);
        bridge.cut(2);
        checks.due("cutting again", bridge.cut(2), false);
    }
}
