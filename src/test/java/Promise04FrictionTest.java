/** Promise 4: ROUGH and MU from now on. */
public final class Promise04FrictionTest {
    public static void main(String[] args) {
        Checks checks = new Checks("Promise 4: friction");
        fromNowOn(checks);
        lockUsesWhatHoldsThen(checks);
        noSuch(checks);
        checks.finish();
    }

    private static void fromNowOn(Checks checks) {
        checks.sentence("ROUGH and MU from now on.");
        TendonLosses bridge = new TendonLosses();
        int bent = Bridges.addBent(bridge);
        checks.due("friction(1000, 0)", bridge.friction(1000, 0), true);
        bridge.pull(bent, 1, 1_000_000);
        Bridges.dueForces(checks, bridge, bent, 1_000_000, 999_000, 997_998, 996_997);
        checks.due("friction(0, 500)", bridge.friction(0, 500), true);
        // One that was pulled before keeps its forces.
        Bridges.dueForces(checks, bridge, bent, 1_000_000, 999_000, 997_998, 996_997);
        bridge.pull(bent, 1, 1_000_000);
        Bridges.dueForces(checks, bridge, bent, 1_000_000, 950_000, 855_000, 855_000);
        checks.due("friction(0, 0)", bridge.friction(0, 0), true);
        bridge.pull(bent, 2, 1_000_000);
        Bridges.dueForces(checks, bridge, bent, 1_000_000, 1_000_000, 1_000_000, 1_000_000);
        checks.due("friction(1000, 500)", bridge.friction(1000, 500), true);
        bridge.pull(bent, 1, 1_000_000);
        Bridges.dueForces(checks, bridge, bent, 1_000_000, 949_050, 853_289, 852_433);
    }

    private static void lockUsesWhatHoldsThen(Checks checks) {
        TendonLosses bridge = Bridges.plain();
        bridge.losses(1000, 0, 0);
        bridge.pull(0, 1, 1_000_000);
        bridge.friction(1000, 0);
        bridge.lock(0);
        // The anchor and the other end lack 39,000 newtons together: 975,622 and 9,756 more.
        Bridges.dueForces(checks, bridge, 0, 975_622, 985_378);
        bridge.friction(0, 0);
        Bridges.dueForces(checks, bridge, 0, 975_622, 985_378);
    }

    private static void noSuch(Checks checks) {
        checks.sentence("False: none such.");
        Refusals refusals = new Refusals(checks, Bridges::mixed);
        // Each is wrong in one number alone, and then in both.
        int[][] wrong = {{-1, 20}, {1001, 20}, {20, -1}, {20, 501}, {Bridges.LEAST_INT, 20},
            {Bridges.MOST_INT, 20}, {20, Bridges.LEAST_INT}, {20, Bridges.MOST_INT}, {-1, -1}, {1001, 501},
            {65_536, 0}, {0, 65_536}, {500, 1000}};
        for (int[] pair : wrong) {
            refusals.no("friction(" + pair[0] + ", " + pair[1] + ")", b -> b.friction(pair[0], pair[1]));
        }
    }
}
