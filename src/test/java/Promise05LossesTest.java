/** Promise 5: SLIP, SHARE and FADE from now on. */
public final class Promise05LossesTest {
    public static void main(String[] args) {
        Checks checks = new Checks("Promise 5: losses");
        fromNowOn(checks);
        nothingBefore(checks);
        noSuch(checks);
        checks.finish();
    }

    private static void fromNowOn(Checks checks) {
        checks.sentence("SLIP, SHARE and FADE from now on.");
        TendonLosses bridge = Bridges.plain();
        Bridges.addStraight(bridge);
        checks.due("losses(1000, 100, 1000)", bridge.losses(1000, 100, 1000), true);
        bridge.pull(0, 1, 1_000_000);
        // A micrometre is 39 newtons of both ends together: 1,000 of them are 19,500 at each.
        checks.due("lock", bridge.lock(0), 1000);
        Bridges.dueForces(checks, bridge, 0, 980_500, 980_500);
        bridge.pull(1, 1, 500_000);
        bridge.lock(1);
        Bridges.dueForces(checks, bridge, 1, 480_500, 480_500);
        Bridges.dueForces(checks, bridge, 0, 932_450, 932_450);
        bridge.days(1);
        Bridges.dueForces(checks, bridge, 0, 931_518, 931_518);
        Bridges.dueForces(checks, bridge, 1, 480_020, 480_020);
        checks.due("losses(0, 0, 0)", bridge.losses(0, 0, 0), true);
        bridge.days(1000);
        Bridges.dueForces(checks, bridge, 0, 931_518, 931_518);
        checks.due("losses(20000, 0, 0)", bridge.losses(20_000, 0, 0), true);
    }

    private static void nothingBefore(Checks checks) {
        TendonLosses bridge = Bridges.plain();
        bridge.pull(0, 1, 1_000_000);
        bridge.lock(0);
        bridge.days(10);
        bridge.losses(1000, 100, 1000);
        Bridges.dueForces(checks, bridge, 0, 1_000_000, 1_000_000);
    }

    private static void noSuch(Checks checks) {
        checks.sentence("False: none such.");
        Refusals refusals = new Refusals(checks, Bridges::mixed);
        // Each is wrong in one number alone, and then in more.
        int[][] wrong = {{-1, 5, 5}, {20_001, 5, 5}, {5, -1, 5}, {5, 101, 5}, {5, 5, -1}, {5, 5, 1001},
            {Bridges.LEAST_INT, 5, 5}, {Bridges.MOST_INT, 5, 5}, {5, Bridges.LEAST_INT, 5},
            {5, Bridges.MOST_INT, 5}, {5, 5, Bridges.LEAST_INT}, {5, 5, Bridges.MOST_INT},
            {-1, -1, -1}, {20_001, 101, 1001}, {65_536, 0, 0}, {0, 65_536, 0}, {0, 0, 65_536}};
        for (int[] three : wrong) {
            refusals.no("losses(" + three[0] + ", " + three[1] + ", " + three[2] + ")",
                    b -> b.losses(three[0], three[1], three[2]));
        }
        TendonLosses bridge = new TendonLosses();
        checks.due("losses(20000, 100, 1000)", bridge.losses(20_000, 100, 1000), true);
        checks.due("losses(0, 0, 0)", bridge.losses(0, 0, 0), true);
    }
}
