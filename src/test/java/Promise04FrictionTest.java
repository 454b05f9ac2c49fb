/** Promise 4: ROUGH and MU from now on. */
public final class Promise04FrictionTest {
    public static void main(String[] args) {
        Checks checks = new Checks();
        TendonLosses bridge = new TendonLosses();
        int bent = Bridges.addBent(bridge);
        checks.due("friction(1000, 0)", bridge.friction(1000, 0), true);
        bridge.pull(bent, 1, 1_000_000);
        Bridges.dueForces(checks, bridge, bent, 1_000_000, 999_000, 997_998, 996_997);
        checks.due("friction(0, 500)", bridge.friction(0, 500), true);
        Bridges.dueForces(checks, bridge, bent, 1_000_000, 999_000, 997_998, 996_997);
        bridge.pull(bent, 1, 1_000_000);
        Bridges.dueForces(checks, bridge, bent, 1_000_000, 950_000, 855_000, 855_000);
        wrongOnesChangeNothing(checks, bridge);
        bridge.pull(bent, 2, 1_000_000);
        Bridges.dueForces(checks, bridge, bent, 855_000, 855_000, 900_000, 1_000_000);
        checks.due("friction(0, 0)", bridge.friction(0, 0), true);
        bridge.pull(bent, 2, 1_000_000);
        Bridges.dueForces(checks, bridge, bent, 1_000_000, 1_000_000, 1_000_000, 1_000_000);
        lockUsesWhatHoldsThen(checks);
        checks.finish();
    }

    private static void wrongOnesChangeNothing(Checks checks, TendonLosses bridge) {
        int[][] wrong = {{1001, 0}, {-1, 0}, {0, 501}, {0, -1}, {5, 501}, {-1, 200},
            {Integer.MAX_VALUE, 0}, {0, Integer.MIN_VALUE}};
        for (int[] pair : wrong) {
            checks.due("friction(" + pair[0] + ", " + pair[1] + ")",
                    bridge.friction(pair[0], pair[1]), false);
        }
    }

    private static void lockUsesWhatHoldsThen(Checks checks) {
        TendonLosses bridge = new TendonLosses();
        bridge.friction(0, 0);
        bridge.losses(1000, 0, 0);
        int straight = Bridges.addStraight(bridge);
        bridge.pull(straight, 1, 1_000_000);
        bridge.friction(1000, 0);
        bridge.lock(straight);
        // The anchor and the other end lack 39,000 newtons together: 975,622 and 9,756 more.
        checks.due("force at the anchor", bridge.force(straight, 0), 975_622);
        checks.due("force at the other end", bridge.force(straight, 1), 985_378);
    }
}
