/** Promise 17: the least pull that is enough. */
public final class Promise17WantedTest {
    public static void main(String[] args) {
        Checks checks = new Checks();
        ordinary(checks);
        eachEnd(checks);
        wrongOnes(checks);
        inEveryState(checks);
        checks.finish();
    }

    private static void ordinary(Checks checks) {
        TendonLosses bridge = new TendonLosses();
        bridge.friction(1000, 0);
        Bridges.addStraight(bridge);
        // A pull of 1,000 leaves 990 at the other end.
        checks.due("wanted 990", bridge.wanted(0, 1, 100, 990), 1000);
        checks.due("wanted 991", bridge.wanted(0, 1, 100, 991), 1100);
        checks.due("wanted 0", bridge.wanted(0, 1, 100, 0), 0);
        checks.due("wanted - 1", bridge.wanted(0, 1, 100, -1), 0);
        checks.due("wanted least int", bridge.wanted(0, 1, 100, Integer.MIN_VALUE), 0);
        checks.due("wanted 1", bridge.wanted(0, 1, 100, 1), 100);
        checks.due("wanted 4,950", bridge.wanted(0, 1, 100, 4950), 5000);
        checks.due("wanted 4,951", bridge.wanted(0, 1, 100, 4951), TendonLosses.BAD);
        checks.due("wanted greatest int", bridge.wanted(0, 1, 200_000, Integer.MAX_VALUE), TendonLosses.BAD);
        checks.due("the greatest of all", bridge.wanted(0, 1, 200_000, 9_900_000), 10_000_000);
        checks.due("above the greatest", bridge.wanted(0, 1, 200_000, 9_900_001), TendonLosses.BAD);
    }

    private static void eachEnd(Checks checks) {
        TendonLosses bridge = new TendonLosses();
        bridge.friction(0, 500);
        // Turns 100 and 200: from both, 1,000 leaves 950 and 900 at the points between.
        Bridges.addBent(bridge);
        checks.due("from the beginning", bridge.wanted(0, 1, 1000, 855), 1000);
        checks.due("from the beginning", bridge.wanted(0, 1, 1000, 856), 2000);
        checks.due("from the end", bridge.wanted(0, 2, 1000, 855), 1000);
        checks.due("from the end", bridge.wanted(0, 2, 1000, 856), 2000);
        checks.due("from both", bridge.wanted(0, 3, 1000, 900), 1000);
        checks.due("from both", bridge.wanted(0, 3, 1000, 901), 2000);
        // One turn of 100 and a straight piece behind it: the ends differ.
        bridge.friction(1000, 500);
        Bridges.add(bridge, 500, 0, 0, 20_000, 0, 21_000, 100);
        bridge.pull(1, 1, 1000);
        Bridges.dueForces(checks, bridge, 1, 1000, 931, 931);
        bridge.pull(1, 2, 1000);
        Bridges.dueForces(checks, bridge, 1, 931, 950, 1000);
        checks.due("from the beginning", bridge.wanted(1, 1, 1000, 931), 1000);
        checks.due("from both", bridge.wanted(1, 3, 1000, 950), 1000);
    }

    private static void wrongOnes(Checks checks) {
        TendonLosses bridge = new TendonLosses();
        checks.due("wanted without tendons", bridge.wanted(0, 1, 5, 0), TendonLosses.BAD);
        bridge.tendon(500);
        checks.due("wanted without points", bridge.wanted(0, 1, 5, 0), TendonLosses.BAD);
        bridge.point(0, 0, 0);
        checks.due("wanted with one point", bridge.wanted(0, 1, 5, 0), TendonLosses.BAD);
        bridge.point(0, 1000, 0);
        checks.due("wanted with two points", bridge.wanted(0, 1, 5, 0), 0);
        int[] froms = {0, 4, -1, Integer.MAX_VALUE, Integer.MIN_VALUE};
        for (int from : froms) {
            checks.due("from " + from, bridge.wanted(0, from, 5, 0), TendonLosses.BAD);
        }
        int[] steps = {0, -1, 200_001, Integer.MAX_VALUE, Integer.MIN_VALUE};
        for (int step : steps) {
            checks.due("step " + step, bridge.wanted(0, 1, step, 0), TendonLosses.BAD);
        }
        checks.due("step 1", bridge.wanted(0, 1, 1, 1), 1);
        for (int odd : Bridges.ODD_NUMBERS) {
            checks.due("wanted(" + odd + ")", bridge.wanted(odd, 1, 5, 0), TendonLosses.BAD);
        }
    }

    private static void inEveryState(Checks checks) {
        TendonLosses bridge = new TendonLosses();
        bridge.friction(1000, 0);
        Bridges.addStraight(bridge);
        bridge.wanted(0, 1, 100, 990);
        checks.due("pulled behind wanted", bridge.count(2), 0);
        checks.due("force behind wanted", bridge.force(0, 0), TendonLosses.BAD);
        bridge.pull(0, 2, 500);
        checks.due("wanted while pulled", bridge.wanted(0, 1, 100, 990), 1000);
        Bridges.dueForces(checks, bridge, 0, 495, 500);
        bridge.losses(10, 0, 0);
        bridge.lock(0);
        int anchor = bridge.force(0, 1);
        // Before it slips: the slip takes nothing from what is reckoned.
        checks.due("wanted while locked", bridge.wanted(0, 1, 100, 990), 1000);
        checks.due("force behind wanted", bridge.force(0, 1), anchor);
        checks.due("locked behind wanted", bridge.count(1), 1);
    }
}
