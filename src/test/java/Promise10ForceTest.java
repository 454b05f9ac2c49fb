/** Promise 10: the force at a point. */
public final class Promise10ForceTest {
    public static void main(String[] args) {
        Checks checks = new Checks("Promise 10: force");
        asPulledOrLocked(checks);
        noSuchOrNeither(checks);
        checks.finish();
    }

    private static void asPulledOrLocked(Checks checks) {
        checks.sentence("The force of a tendon at a point: as it is pulled, or locked.");
        TendonLosses bridge = new TendonLosses();
        int bent = Bridges.addBent(bridge);
        bridge.friction(0, 500);
        bridge.pull(bent, 1, 1_000_000);
        Bridges.dueForces(checks, bridge, bent, 1_000_000, 950_000, 855_000, 855_000);
        bridge.losses(100, 0, 0);
        Bridges.dueForces(checks, bridge, bent, 1_000_000, 950_000, 855_000, 855_000);
        bridge.lock(bent);
        // Locked: 100 micrometres are 39,000 newtons of the first piece.
        Bridges.dueForces(checks, bridge, bent, 961_000, 950_000, 855_000, 855_000);
        TendonLosses none = Bridges.plain();
        none.losses(20_000, 0, 0);
        none.pull(0, 1, 1);
        none.lock(0);
        Bridges.dueForces(checks, none, 0, 0, 0);
    }

    private static void noSuchOrNeither(Checks checks) {
        checks.sentence("BAD: none such, it is neither.");
        checks.due("force without tendons", new TendonLosses().force(0, 0), TendonLosses.BAD);
        Refusals refusals = new Refusals(checks, Bridges::mixed);
        for (int tendon : Bridges.NO_TENDONS) {
            refusals.bad("force(" + tendon + ", 0)", b -> b.force(tendon, 0));
        }
        // Tendons 1 and 2 have the points 0 to 3.
        int[] noPoints = {4, 9, 10, -1, Bridges.LEAST_INT, Bridges.MOST_INT};
        for (int point : noPoints) {
            refusals.bad("force(1, " + point + ")", b -> b.force(1, point));
            refusals.bad("force(2, " + point + ")", b -> b.force(2, point));
        }
        refusals.bad("force of one that is neither", b -> b.force(0, 0));
        refusals.bad("force of one with one point", b -> b.force(4, 0));
        refusals.changesNothing("force of a pulled one", b -> b.force(1, 3), 800_000);
        for (int point : Bridges.NO_POINTS) {
            checks.due("force(1, " + point + ") of ten", Bridges.full().force(1, point), TendonLosses.BAD);
        }
        checks.due("force(1, 9) of ten", Bridges.full().force(1, 9) > 0, true);
        TendonLosses cut = Bridges.mixed();
        cut.cut(2);
        checks.due("force behind cut", cut.force(2, 0), TendonLosses.BAD);
        cut.cut(1);
        checks.due("force behind letting go", cut.force(1, 0), TendonLosses.BAD);
    }
}
