/** Promise 10: the force at a point. */
public final class Promise10ForceTest {
    public static void main(String[] args) {
        Checks checks = new Checks();
        TendonLosses bridge = new TendonLosses();
        checks.due("force without tendons", bridge.force(0, 0), TendonLosses.BAD);
        int bent = Bridges.addBent(bridge);
        checks.due("force of one not pulled", bridge.force(bent, 0), TendonLosses.BAD);
        bridge.friction(0, 500);
        bridge.pull(bent, 1, 1_000_000);
        // At a point it is the force behind the turn.
        Bridges.dueForces(checks, bridge, bent, 1_000_000, 950_000, 855_000, 855_000);
        for (int odd : Bridges.ODD_NUMBERS) {
            checks.due("force(0, " + odd + ")", bridge.force(0, odd), TendonLosses.BAD);
            checks.due("force(" + odd + ", 0)", bridge.force(odd, 0), TendonLosses.BAD);
        }
        bridge.losses(100, 0, 0);
        bridge.lock(bent);
        // Locked: the one behind slip. 100 micrometres are 39,000 newtons of the first piece.
        checks.due("force at the anchor", bridge.force(bent, 0), 961_000);
        checks.due("force at the last point", bridge.force(bent, 3), 855_000);
        bridge.cut(bent);
        checks.due("force behind cut", bridge.force(bent, 0), TendonLosses.BAD);
        checks.finish();
    }
}
