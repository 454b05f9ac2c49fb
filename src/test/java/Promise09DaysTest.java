/** Promise 9: days go by. */
public final class Promise09DaysTest {
    public static void main(String[] args) {
        Checks checks = new Checks();
        TendonLosses bridge = new TendonLosses();
        int[] wrong = {0, -1, 1001, Integer.MIN_VALUE, Integer.MAX_VALUE};
        for (int many : wrong) {
            checks.due("days(" + many + ")", bridge.days(many), TendonLosses.BAD);
        }
        checks.due("days(1)", bridge.days(1), 1);
        checks.due("days(1000)", bridge.days(1000), 1001);
        checks.due("count(3)", bridge.count(3), 1001);
        bridge.friction(1000, 0);
        bridge.losses(0, 0, 1000);
        int locked = Bridges.addStraight(bridge);
        int pulled = Bridges.addStraight(bridge);
        bridge.pull(locked, 1, 1_000_500);
        bridge.pull(pulled, 1, 1_000_500);
        bridge.lock(locked);
        checks.due("days(1)", bridge.days(1), 1002);
        Bridges.dueForces(checks, bridge, locked, 999_500, 989_505);
        // Each day is cut off by itself: 999 and 989, then 998 and 988 go.
        checks.due("days(2)", bridge.days(2), 1004);
        Bridges.dueForces(checks, bridge, locked, 997_503, 987_528);
        Bridges.dueForces(checks, bridge, pulled, 1_000_500, 990_495);
        bridge.days(0);
        Bridges.dueForces(checks, bridge, locked, 997_503, 987_528);
        smallForcesStay(checks);
        checks.finish();
    }

    private static void smallForcesStay(Checks checks) {
        TendonLosses bridge = new TendonLosses();
        bridge.losses(0, 0, 1000);
        bridge.friction(0, 0);
        Bridges.addStraight(bridge);
        bridge.pull(0, 1, 1002);
        bridge.lock(0);
        bridge.days(1000);
        // From 999 on a thousandth is cut off to nothing.
        Bridges.dueForces(checks, bridge, 0, 999, 999);
        bridge.cut(0);
        // 37,037 * 27 is 999,999, one too little.
        bridge.losses(0, 0, 27);
        bridge.pull(0, 1, 37_038);
        bridge.lock(0);
        bridge.days(3);
        Bridges.dueForces(checks, bridge, 0, 37_037, 37_037);
    }
}
