/** Promise 5: SLIP, SHARE and FADE from now on. */
public final class Promise05LossesTest {
    public static void main(String[] args) {
        Checks checks = new Checks();
        eachIsUsed(checks);
        edgesAndWrongOnes(checks);
        fromNowOn(checks);
        checks.finish();
    }

    private static void eachIsUsed(Checks checks) {
        TendonLosses bridge = new TendonLosses();
        bridge.friction(0, 0);
        int first = Bridges.addStraight(bridge);
        int second = Bridges.addStraight(bridge);
        checks.due("losses(1000, 100, 1000)", bridge.losses(1000, 100, 1000), true);
        bridge.pull(first, 1, 1_000_000);
        // A micrometre is 39 newtons of both ends together: 1,000 of them are 19,500 at each.
        checks.due("lock", bridge.lock(first), 1000);
        Bridges.dueForces(checks, bridge, first, 980_500, 980_500);
        bridge.pull(second, 1, 500_000);
        bridge.lock(second);
        Bridges.dueForces(checks, bridge, second, 480_500, 480_500);
        Bridges.dueForces(checks, bridge, first, 932_450, 932_450);
        bridge.days(1);
        Bridges.dueForces(checks, bridge, first, 931_518, 931_518);
        Bridges.dueForces(checks, bridge, second, 480_020, 480_020);
    }

    private static void edgesAndWrongOnes(Checks checks) {
        TendonLosses bridge = new TendonLosses();
        checks.due("losses(20000, 100, 1000)", bridge.losses(20_000, 100, 1000), true);
        checks.due("losses(0, 0, 0)", bridge.losses(0, 0, 0), true);
        int[][] wrong = {{20_001, 50, 50}, {-1, 50, 50}, {50, 101, 50}, {50, -1, 50}, {50, 50, 1001},
            {50, 50, -1}, {Integer.MAX_VALUE, 0, 0}, {0, Integer.MIN_VALUE, 0}, {0, 0, Integer.MAX_VALUE}};
        for (int[] three : wrong) {
            checks.due("losses(" + three[0] + ", " + three[1] + ", " + three[2] + ")",
                    bridge.losses(three[0], three[1], three[2]), false);
        }
        // None of the wrong ones may have left a part of itself behind.
        int first = Bridges.addStraight(bridge);
        int second = Bridges.addStraight(bridge);
        bridge.friction(0, 0);
        bridge.pull(first, 3, 1_000_000);
        bridge.pull(second, 3, 1_000_000);
        checks.due("lock without slip", bridge.lock(first), 0);
        checks.due("lock without slip", bridge.lock(second), 0);
        bridge.days(1000);
        Bridges.dueForces(checks, bridge, first, 1_000_000, 1_000_000);
    }

    private static void fromNowOn(Checks checks) {
        TendonLosses bridge = new TendonLosses();
        bridge.friction(0, 0);
        int first = Bridges.addStraight(bridge);
        bridge.pull(first, 1, 1_000_000);
        bridge.lock(first);
        bridge.losses(1000, 100, 0);
        Bridges.dueForces(checks, bridge, first, 1_000_000, 1_000_000);
        bridge.days(10);
        Bridges.dueForces(checks, bridge, first, 1_000_000, 1_000_000);
    }
}
